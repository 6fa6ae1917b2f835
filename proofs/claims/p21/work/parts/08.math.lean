/-! ===== lN n to 2^64: shifts, and, or, masks, one bit ===== -/
theorem wb_tb (n : Nat) : (lN n).toBitVec = BitVec.ofNat 64 n := rfl
theorem wb_inj {a b : Int64} (h : a.toBitVec = b.toBitVec) : a = b := Int64.toBitVec_inj.mp h
theorem wb_tn {n : Nat} (h : n < 2 ^ 64) : (lN n).toBitVec.toNat = n := by rw [wb_tb, BitVec.toNat_ofNat, Nat.mod_eq_of_lt h]
theorem wb_of (x : Int64) : ∃ n, n < 2 ^ 64 ∧ x = lN n := ⟨x.toBitVec.toNat, x.toBitVec.isLt, wb_inj (by rw [wb_tb]; simp)⟩
theorem wb_of32 (x : Int32) : ∃ n, n < 2 ^ 32 ∧ x = nI n := ⟨x.toBitVec.toNat, x.toBitVec.isLt, Int32.toBitVec_inj.mp (by show _ = BitVec.ofNat 32 _; simp)⟩
theorem wb_c : ∀ k, k < 64 → ((nI k).toInt64 &&& 63) = lN k := by decide +kernel
theorem wb_cu : ∀ k, k < 64 → ((nI k).toInt64.toUInt64 &&& Int64.toUInt64 63) = UInt64.ofNat k := by decide +kernel
theorem wb_sm : ∀ k, k < 64 → (BitVec.ofNat 64 k).smod 64 = BitVec.ofNat 64 k := by decide +kernel
theorem wb_pw {a b : Nat} (h : a ≤ b) : 2 ^ b = 2 ^ a * 2 ^ (b - a) := by rw [← Nat.pow_add]; congr 1; omega
theorem wb_lt2 {a b : Nat} (h : a < b) : 2 ^ a < 2 ^ b := Nat.pow_lt_pow_right (by decide) h
theorem wb_mod (n : Nat) : lN n = lN (n % 2 ^ 64) := wb_inj (by rw [wb_tb, wb_tb]; apply BitVec.eq_of_toNat_eq; rw [BitVec.toNat_ofNat, BitVec.toNat_ofNat, Nat.mod_mod])
theorem wb_shr {n k : Nat} (hn : n < 2 ^ 64) (hk : k < 64) : ((lN n).toUInt64 >>> ((nI k).toInt64.toUInt64 &&& Int64.toUInt64 63)).toInt64 = lN (n / 2 ^ k) := by
  rw [wb_cu k hk]
  apply wb_inj
  apply BitVec.eq_of_toNat_eq
  show ((lN n).toUInt64 >>> UInt64.ofNat k).toNat = (BitVec.ofNat 64 _).toNat
  have h1 : (UInt64.ofNat k).toNat = k := by
    show (BitVec.ofNat 64 k).toNat = k
    rw [BitVec.toNat_ofNat, Nat.mod_eq_of_lt (by omega)]
  have h2 : (lN n).toUInt64.toNat = n := wb_tn hn
  rw [UInt64.toNat_shiftRight, h1, h2, Nat.mod_eq_of_lt hk, Nat.shiftRight_eq_div_pow, BitVec.toNat_ofNat, Nat.mod_eq_of_lt (Nat.lt_of_le_of_lt (Nat.div_le_self _ _) hn)]
theorem wb_shl (n : Nat) {k : Nat} (hk : k < 64) : lN n <<< ((nI k).toInt64 &&& 63) = lN (n * 2 ^ k) := by
  rw [wb_c k hk]
  apply wb_inj
  rw [Int64.toBitVec_shiftLeft, wb_tb, wb_tb, wb_tb, wb_sm k hk]
  apply BitVec.eq_of_toNat_eq
  rw [BitVec.shiftLeft_eq', BitVec.toNat_shiftLeft, BitVec.toNat_ofNat, BitVec.toNat_ofNat, BitVec.toNat_ofNat, Nat.mod_eq_of_lt (show k < 2 ^ 64 by omega), Nat.shiftLeft_eq, Nat.mul_mod, Nat.mod_mod, ← Nat.mul_mod]
theorem wb_and {a b : Nat} (ha : a < 2 ^ 64) (hb : b < 2 ^ 64) : lN a &&& lN b = lN (a &&& b) := by
  apply wb_inj
  rw [Int64.toBitVec_and, wb_tb, wb_tb, wb_tb]
  apply BitVec.eq_of_toNat_eq
  rw [BitVec.toNat_and, BitVec.toNat_ofNat, BitVec.toNat_ofNat, BitVec.toNat_ofNat, Nat.mod_eq_of_lt ha, Nat.mod_eq_of_lt hb, Nat.mod_eq_of_lt (Nat.and_lt_two_pow _ hb)]
theorem wb_or {a b : Nat} (ha : a < 2 ^ 64) (hb : b < 2 ^ 64) : lN a ||| lN b = lN (a ||| b) := by
  apply wb_inj
  rw [Int64.toBitVec_or, wb_tb, wb_tb, wb_tb]
  apply BitVec.eq_of_toNat_eq
  rw [BitVec.toNat_or, BitVec.toNat_ofNat, BitVec.toNat_ofNat, BitVec.toNat_ofNat, Nat.mod_eq_of_lt ha, Nat.mod_eq_of_lt hb, Nat.mod_eq_of_lt (Nat.or_lt_two_pow ha hb)]
theorem wb_mask {n k : Nat} (hn : n < 2 ^ 64) (hk : k < 64) : lN n &&& lN (2 ^ k - 1) = lN (n % 2 ^ k) := by
  rw [wb_and hn (by have := wb_lt2 hk; omega), Nat.and_two_pow_sub_one_eq_mod]
theorem wb_a1 {n : Nat} (hn : n < 2 ^ 64) : lN n &&& 1 = lN (n % 2) := wb_mask (k := 1) hn (by decide)
theorem wb_bit {n k : Nat} (hn : n < 2 ^ 64) (hk : k < 64) : ((lN n).toUInt64 >>> ((nI k).toInt64.toUInt64 &&& Int64.toUInt64 63)).toInt64 &&& 1 = lN (n / 2 ^ k % 2) := by
  rw [wb_shr hn hk, wb_a1 (Nat.lt_of_le_of_lt (Nat.div_le_self _ _) hn)]
theorem wb_xor {q k : Nat} (hk : k < 63) (h : 2 ^ k ≤ q) (h2 : q < 2 ^ (k + 1)) : lN q ^^^ lN (2 ^ k) = lN (q - 2 ^ k) := by
  obtain ⟨r, rfl⟩ : ∃ r, q = 2 ^ k + r := ⟨q - 2 ^ k, by omega⟩
  have hr : r < 2 ^ k := by rw [Nat.pow_succ] at h2; omega
  have hx : (2 ^ k + r) ^^^ 2 ^ k = r := by
    apply Nat.eq_of_testBit_eq
    intro i
    rw [Nat.testBit_xor, Nat.testBit_two_pow]
    rcases Nat.lt_trichotomy i k with h | h | h
    · rw [Nat.testBit_two_pow_add_gt h]
      simp [show ¬ k = i by omega]
    · subst h
      rw [Nat.testBit_two_pow_add_eq]
      simp
    · have a1 : 2 ^ (k + 1) ≤ 2 ^ i := Nat.pow_le_pow_right (by decide) h
      rw [Nat.testBit_lt_two_pow (show 2 ^ k + r < 2 ^ i by omega), Nat.testBit_lt_two_pow (show r < 2 ^ i by omega)]
      simp [show ¬ k = i by omega]
  have b1 := wb_lt2 (show k + 1 < 64 by omega)
  have b2 := wb_lt2 (show k < 64 by omega)
  apply wb_inj
  rw [Int64.toBitVec_xor, wb_tb, wb_tb, wb_tb]
  apply BitVec.eq_of_toNat_eq
  rw [BitVec.toNat_xor, BitVec.toNat_ofNat, BitVec.toNat_ofNat, BitVec.toNat_ofNat, Nat.mod_eq_of_lt (by omega : 2 ^ k + r < 2 ^ 64), Nat.mod_eq_of_lt b2, hx, Nat.add_sub_cancel_left, Nat.mod_eq_of_lt (by omega)]
/-! two rows of NUMBERS.to-paste -/
theorem fa_and (a b : Nat) : nI a &&& nI b = nI (a &&& b) := by
  apply Int32.toBitVec_inj.1
  show BitVec.ofNat 32 a &&& BitVec.ofNat 32 b = BitVec.ofNat 32 (a &&& b)
  apply BitVec.eq_of_getLsbD_eq
  intro i hi
  simp [hi]
theorem fa_mask (n k : Nat) : nI n &&& nI (2 ^ k - 1) = nI (n % 2 ^ k) := by rw [fa_and, Nat.and_two_pow_sub_one_eq_mod]
/-! The game in numbers: a side's pieces are the hexadecimal digits of a number, place by place. -/
def dg (n p : Nat) : Nat := n / 16 ^ p % 16
theorem dg_lt (n p : Nat) : dg n p < 16 := Nat.mod_lt _ (by decide)
theorem dg_big {n p : Nat} (hn : n < 2 ^ 63) (hp : 15 < p) : dg n p = 0 := by
  have h1 : (16 : Nat) ^ 16 ≤ 16 ^ p := Nat.pow_le_pow_right (by decide) hp
  have h2 : n < 16 ^ p := Nat.lt_of_lt_of_le (Nat.lt_of_lt_of_le hn (by decide)) h1
  rw [dg, Nat.div_eq_of_lt h2]
theorem zcnt (n p : Nat) : nI (n / 2 ^ (4 * p)) &&& 15 = nI (dg n p) := by
  rw [dg, show (16 : Nat) ^ p = 2 ^ (4 * p) by rw [Nat.pow_mul]]
  exact fa_mask _ 4
/-- the sum of the first k digits; the sum of the places -/
def dsum (n : Nat) : Nat → Nat
  | 0 => 0
  | k + 1 => dsum n k + dg n k
def psum (n : Nat) : Nat → Nat
  | 0 => 0
  | k + 1 => psum n k + k * dg n k
theorem psum_le (n : Nat) : ∀ k, k ≤ 16 → psum n k ≤ 256 * k := by
  intro k
  induction k with
  | zero => intro _; exact Nat.le_refl _
  | succ k ih =>
    intro hk
    have h1 := ih (by omega)
    have h2 := dg_lt n k
    have h3 : k * dg n k ≤ 15 * 15 := Nat.mul_le_mul (by omega) (by omega)
    show psum n k + k * dg n k ≤ _
    omega
/-- the first place that holds a piece, from p on, at most 15 -/
def zfs (n : Nat) : Nat → Nat → Nat
  | p, 0 => p
  | p, k + 1 => if dg n p = 0 then zfs n (p + 1) k else p
theorem zfs_z {n p : Nat} : zfs n p 0 = p := rfl
theorem zfs_s {n p k : Nat} : zfs n p (k + 1) = if dg n p = 0 then zfs n (p + 1) k else p := rfl
def zros (p : Nat) : Bool := p == 4 || p == 8 || p == 14
def zshr (p : Nat) : Bool := decide (5 ≤ p) && decide (p ≤ 12)
def zcen (p : Nat) (o t : Bool) : Bool := if 15 ≤ p then p == 15 else !o && !(t && p == 8)
def zcm (own other from_ m : Nat) : Bool := decide (0 < m) && decide (0 < dg own from_) && zcen (from_ + m) (decide (0 < dg own (from_ + m))) (decide (0 < dg other (from_ + m)))
def ztk (other p : Nat) : Bool := zshr p && decide (0 < dg other p)
def zsh (n a b : Nat) : Nat := n - 16 ^ a + 16 ^ b
def zhome (n : Nat) : Bool := n % 2 ^ 60 == 0
def ztm (m : Nat) : Nat := if m = 0 then 1 else if m = 1 then 4 else if m = 2 then 6 else if m = 3 then 4 else if m = 4 then 1 else 0
theorem lN_home {n : Nat} (hn : n < 2 ^ 63) : lN n &&& 1152921504606846975 = lN (n % 2 ^ 60) := wb_mask (k := 60) (by omega) (by decide)
theorem lN_pw {a : Nat} (ha : a ≤ 15) : (1 : Int64) <<< ((nI (4 * a)).toInt64 &&& 63) = lN (16 ^ a) := by
  rw [show (16 : Nat) ^ a = 1 * 2 ^ (4 * a) by rw [Nat.pow_mul, Nat.one_mul]]
  exact wb_shl 1 (k := 4 * a) (by omega)
theorem lN_sh {n a b : Nat} (h : 16 ^ a ≤ n) : lN n - lN (16 ^ a) + lN (16 ^ b) = lN (zsh n a b) := by
  rw [lN_sub h, lN_add]
  rfl

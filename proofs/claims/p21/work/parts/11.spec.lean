/-! What the game's worths are, in natural numbers, and what a move does to the digits. -/
def zsm (f : Nat → Nat) : Nat → Nat
  | 0 => 0
  | k + 1 => zsm f k + ztm k * f k
theorem zsm_le {f : Nat → Nat} (h : ∀ m, m ≤ 4 → f m ≤ 1000000000) : ∀ k, k ≤ 5 → zsm f k ≤ 16000000000 := by
  have h0 := h 0 (by omega)
  have h1 := h 1 (by omega)
  have h2 := h 2 (by omega)
  have h3 := h 3 (by omega)
  have h4 := h 4 (by omega)
  intro k hk
  obtain rfl | rfl | rfl | rfl | rfl | rfl : k = 0 ∨ k = 1 ∨ k = 2 ∨ k = 3 ∨ k = 4 ∨ k = 5 := by omega
  all_goals (simp [zsm, ztm]; try omega)
theorem zsm_div {f : Nat → Nat} (h : ∀ m, m ≤ 4 → f m ≤ 1000000000) : zsm f 5 / 16 ≤ 1000000000 := by
  have := zsm_le h 5 (by omega)
  omega
theorem ztm_le (m : Nat) : ztm m ≤ 6 := by
  unfold ztm
  repeat' split
  all_goals omega
/-- endings: behind a throw, by the worths to throw of a round less -/
def zEB (V : Nat → Nat → Nat) (own oth m : Nat) : Nat :=
  if m = 0 then 1000000000 - V oth own
  else if zcen (own + m) false (oth == own + m) = false then 1000000000 - V oth own
  else if own + m = 15 then 1000000000
  else if zros (own + m) = true then V (own + m) (if oth = own + m ∧ zshr (own + m) = true then 0 else oth)
  else 1000000000 - V (if oth = own + m ∧ zshr (own + m) = true then 0 else oth) (own + m)
def zE : Nat → Nat → Nat → Nat
  | 0, _, _ => 500000000
  | r + 1, own, oth => zsm (zEB (zE r) own oth) 5 / 16
theorem zEB_le {V : Nat → Nat → Nat} (h : ∀ a b, V a b ≤ 1000000000) (own oth m : Nat) : zEB V own oth m ≤ 1000000000 := by
  unfold zEB
  repeat' split
  all_goals first | omega | exact h _ _
theorem zE_le : ∀ r own oth, zE r own oth ≤ 1000000000 := by
  intro r
  induction r with
  | zero => intro _ _; show 500000000 ≤ 1000000000; omega
  | succ r ih => intro own oth; exact zsm_div (fun m _ => zEB_le ih own oth m)
/-- the worth without looking ahead, of positions of k pieces each -/
def zLf (k own oth : Nat) : Nat :=
  if dg own 15 = k - 1 ∧ dg oth 15 = k - 1 then zE 40 (zfs own 0 15) (zfs oth 0 15)
  else min (max (500000000 + 4000000 * psum own 16 - 4000000 * psum oth 16) 1) 999999999
/-- is there a move among the first j places; the greatest of g over them -/
def zHas (own oth m : Nat) : Nat → Bool
  | 0 => false
  | j + 1 => zHas own oth m j || zcm own oth j m
def zBst (g : Nat → Nat) (own oth m : Nat) : Nat → Nat
  | 0 => 0
  | j + 1 => if zcm own oth j m = true then max (zBst g own oth m j) (g j) else zBst g own oth m j
def zNum (own oth m : Nat) : Nat → Nat
  | 0 => 0
  | j + 1 => zNum own oth m j + (if zcm own oth j m = true then 1 else 0)
/-- behind a move -/
def zBM (V : Nat → Nat → Nat) (own oth fr m : Nat) : Nat :=
  if zhome (zsh own fr (fr + m)) = true then 1000000000
  else if zros (fr + m) = true then V (zsh own fr (fr + m)) (if ztk oth (fr + m) = true then zsh oth (fr + m) 0 else oth)
  else 1000000000 - V (if ztk oth (fr + m) = true then zsh oth (fr + m) 0 else oth) (zsh own fr (fr + m))
/-- behind a throw -/
def zBT (V : Nat → Nat → Nat) (own oth m : Nat) : Nat :=
  if zHas own oth m 15 = true then zBst (fun fr => zBM V own oth fr m) own oth m 15 else 1000000000 - V oth own
/-- to throw, with a depth -/
def zV (k : Nat) : Nat → Nat → Nat → Nat
  | 0, own, oth => zLf k own oth
  | d + 1, own, oth => zsm (zBT (zV k d) own oth) 5 / 16
theorem zLf_le (k own oth : Nat) : zLf k own oth ≤ 1000000000 := by
  unfold zLf
  split
  · exact zE_le _ _ _
  · omega
theorem zBM_le {V : Nat → Nat → Nat} (h : ∀ a b, V a b ≤ 1000000000) (own oth fr m : Nat) : zBM V own oth fr m ≤ 1000000000 := by
  unfold zBM
  split
  · exact Nat.le_refl _
  · split
    · exact h _ _
    · omega
theorem zBst_le {g : Nat → Nat} (h : ∀ a, g a ≤ 1000000000) (own oth m : Nat) : ∀ j, zBst g own oth m j ≤ 1000000000 := by
  intro j
  induction j with
  | zero => exact Nat.zero_le _
  | succ j ih =>
    show (if _ then _ else _) ≤ _
    split
    · exact Nat.max_le.mpr ⟨ih, h j⟩
    · exact ih
theorem zBT_le {V : Nat → Nat → Nat} (h : ∀ a b, V a b ≤ 1000000000) (own oth m : Nat) : zBT V own oth m ≤ 1000000000 := by
  unfold zBT
  split
  · exact zBst_le (fun a => zBM_le h _ _ _ _) _ _ _ _
  · omega
theorem zV_le (k : Nat) : ∀ d own oth, zV k d own oth ≤ 1000000000 := by
  intro d
  induction d with
  | zero => intro own oth; exact zLf_le _ _ _
  | succ d ih => intro own oth; exact zsm_div (fun m _ => zBT_le ih own oth m)
/-! digits under a move -/
theorem dg_low {n a p : Nat} (h : p < a) : n % 16 ^ a / 16 ^ p % 16 = dg n p := by
  have e : (16 : Nat) ^ a = 16 ^ p * 16 ^ (a - p) := by rw [← Nat.pow_add]; congr 1; omega
  rw [e, Nat.mod_mul_right_div_self, dg]
  exact Nat.mod_mod_of_dvd _ ⟨16 ^ (a - p - 1), by rw [← Nat.pow_succ']; congr 1; omega⟩
theorem dg_high {n a p : Nat} (h : a < p) : dg n p = n / 16 ^ a / 16 / 16 ^ (p - a - 1) % 16 := by
  rw [dg, Nat.div_div_eq_div_mul, Nat.div_div_eq_div_mul]
  congr 2
  rw [← Nat.pow_succ', ← Nat.pow_add]
  congr 1
  omega
theorem dg_sub {n a : Nat} (h : 0 < dg n a) (p : Nat) : dg (n - 16 ^ a) p = dg n p - (if p = a then 1 else 0) := by
  have hpos : 0 < (16 : Nat) ^ a := Nat.pow_pos (by decide)
  have hq : 1 ≤ n / 16 ^ a % 16 := h
  have hle : 16 ^ a ≤ n := by
    rcases Nat.lt_or_ge n (16 ^ a) with h1 | h1
    · rw [Nat.div_eq_of_lt h1] at hq; omega
    · exact h1
  have e1 : (n - 16 ^ a) % 16 ^ a = n % 16 ^ a := by
    have := Nat.add_mod_right (n - 16 ^ a) (16 ^ a)
    rw [Nat.sub_add_cancel hle] at this
    exact this.symm
  have e2 : (n - 16 ^ a) / 16 ^ a = n / 16 ^ a - 1 := by
    have := Nat.add_div_right (n - 16 ^ a) hpos
    rw [Nat.sub_add_cancel hle] at this
    rw [this, Nat.add_sub_cancel]
  rcases Nat.lt_trichotomy p a with hp | hp | hp
  · rw [if_neg (by omega), Nat.sub_zero, ← dg_low hp, e1, dg_low hp]
  · subst hp
    rw [if_pos rfl]
    show (n - 16 ^ p) / 16 ^ p % 16 = n / 16 ^ p % 16 - 1
    rw [e2]
    generalize n / 16 ^ p = q at hq ⊢
    omega
  · have e3 : (n / 16 ^ a - 1) / 16 = n / 16 ^ a / 16 := by
      generalize n / 16 ^ a = q at hq ⊢
      omega
    rw [if_neg (by omega), Nat.sub_zero, dg_high hp, dg_high hp, e2, e3]
theorem dg_add {n b : Nat} (h : dg n b < 15) (p : Nat) : dg (n + 16 ^ b) p = dg n p + (if p = b then 1 else 0) := by
  have hpos : 0 < (16 : Nat) ^ b := Nat.pow_pos (by decide)
  have hq : n / 16 ^ b % 16 < 15 := h
  have e1 : (n + 16 ^ b) % 16 ^ b = n % 16 ^ b := Nat.add_mod_right _ _
  have e2 : (n + 16 ^ b) / 16 ^ b = n / 16 ^ b + 1 := Nat.add_div_right _ hpos
  rcases Nat.lt_trichotomy p b with hp | hp | hp
  · rw [if_neg (by omega), Nat.add_zero, ← dg_low hp, e1, dg_low hp]
  · subst hp
    rw [if_pos rfl]
    show (n + 16 ^ p) / 16 ^ p % 16 = n / 16 ^ p % 16 + 1
    rw [e2]
    generalize n / 16 ^ p = q at hq ⊢
    omega
  · have e3 : (n / 16 ^ b + 1) / 16 = n / 16 ^ b / 16 := by
      generalize n / 16 ^ b = q at hq ⊢
      omega
    rw [if_neg (by omega), Nat.add_zero, dg_high hp, dg_high hp, e2, e3]
theorem dg_sh {n a b : Nat} (ha : 0 < dg n a) (hb : dg n b < 15) (hab : a ≠ b) (p : Nat) : dg (zsh n a b) p = dg n p - (if p = a then 1 else 0) + (if p = b then 1 else 0) := by
  have h1 : dg (n - 16 ^ a) b < 15 := by rw [dg_sub ha, if_neg (fun e => hab e.symm)]; omega
  rw [zsh, dg_add h1, dg_sub ha]
theorem dg_le {n a : Nat} (h : 0 < dg n a) : 16 ^ a ≤ n := by
  rcases Nat.lt_or_ge n (16 ^ a) with h1 | h1
  · rw [dg, Nat.div_eq_of_lt h1] at h; exact absurd h (by decide)
  · exact h1
/-- a layout of k pieces -/
def zok (k n : Nat) : Prop := k ≤ 4 ∧ n < 16 ^ 16 ∧ dsum n 16 = k
theorem dsum_mono (n : Nat) : ∀ j p, p < j → dg n p ≤ dsum n j := by
  intro j
  induction j with
  | zero => intro p hp; omega
  | succ j ih =>
    intro p hp
    show _ ≤ dsum n j + dg n j
    rcases Nat.lt_or_ge p j with h | h
    · have := ih p h; omega
    · rw [show p = j by omega]; omega
theorem psum_dsum (n : Nat) : ∀ j, j ≤ 16 → psum n j ≤ 15 * dsum n j := by
  intro j
  induction j with
  | zero => intro _; exact Nat.le_refl _
  | succ j ih =>
    intro hj
    have h1 := ih (by omega)
    have h2 : j * dg n j ≤ 15 * dg n j := Nat.mul_le_mul_right _ (by omega)
    show psum n j + j * dg n j ≤ 15 * (dsum n j + dg n j)
    rw [Nat.mul_add]
    omega
theorem zok_dg {k n : Nat} (h : zok k n) (p : Nat) (hp : p ≤ 15) : dg n p ≤ 4 := by
  have := dsum_mono n 16 p (by omega)
  rw [h.2.2] at this
  have := h.1
  omega
theorem zok.ps {k n : Nat} (h : zok k n) : psum n 16 ≤ 60 := by
  have := psum_dsum n 16 (by omega)
  rw [h.2.2] at this
  have := h.1
  omega
theorem zok.lt {k n : Nat} (h : zok k n) : n < 2 ^ 63 := by
  have h1 := zok_dg h 15 (by omega)
  have h2 := h.2.1
  have h3 : n / 16 ^ 15 % 16 ≤ 4 := h1
  omega
theorem dsum_sh {n a b : Nat} (ha : 0 < dg n a) (hb : dg n b < 15) (hab : a ≠ b) : ∀ j, dsum (zsh n a b) j + (if a < j then 1 else 0) = dsum n j + (if b < j then 1 else 0) := by
  intro j
  induction j with
  | zero => rfl
  | succ j ih =>
    show dsum (zsh n a b) j + dg (zsh n a b) j + _ = dsum n j + dg n j + _
    rw [dg_sh ha hb hab]
    by_cases h1 : j = a
    · subst h1
      rw [if_pos rfl, if_neg hab, if_pos (by omega)]
      rw [if_neg (by omega)] at ih
      by_cases h2 : b < j
      · rw [if_pos h2] at ih; rw [if_pos (by omega)]; omega
      · rw [if_neg h2] at ih; rw [if_neg (by omega)]; omega
    · by_cases h3 : j = b
      · subst h3
        rw [if_neg (fun e => hab e.symm), if_pos rfl, if_pos (show j < j + 1 by omega)]
        rw [if_neg (show ¬ j < j by omega)] at ih
        by_cases h2 : a < j
        · rw [if_pos h2] at ih; rw [if_pos (by omega)]; omega
        · rw [if_neg h2] at ih; rw [if_neg (by omega)]; omega
      · rw [if_neg h1, if_neg h3]
        have e1 : (a < j + 1) = (a < j) := by apply propext; omega
        have e2 : (b < j + 1) = (b < j) := by apply propext; omega
        simp only [e1, e2]
        omega
theorem psum_sh {n a b : Nat} (ha : 0 < dg n a) (hb : dg n b < 15) (hab : a ≠ b) : ∀ j, psum (zsh n a b) j + (if a < j then a else 0) = psum n j + (if b < j then b else 0) := by
  intro j
  induction j with
  | zero => rfl
  | succ j ih =>
    show psum (zsh n a b) j + j * dg (zsh n a b) j + _ = psum n j + j * dg n j + _
    rw [dg_sh ha hb hab]
    by_cases h1 : j = a
    · subst h1
      rw [if_pos rfl, if_neg hab, if_pos (by omega)]
      rw [if_neg (by omega)] at ih
      have e : j * (dg n j - 1 + 0) + j = j * dg n j := by rw [Nat.add_zero, ← Nat.mul_succ]; congr 1; omega
      by_cases h2 : b < j
      · rw [if_pos h2] at ih; rw [if_pos (by omega)]; omega
      · rw [if_neg h2] at ih; rw [if_neg (by omega)]; omega
    · by_cases h3 : j = b
      · subst h3
        rw [if_neg (fun e => hab e.symm), if_pos rfl, if_pos (show j < j + 1 by omega)]
        rw [if_neg (show ¬ j < j by omega)] at ih
        have e : j * (dg n j - 0 + 1) = j * dg n j + j := by rw [Nat.sub_zero, Nat.mul_succ]
        by_cases h2 : a < j
        · rw [if_pos h2] at ih; rw [if_pos (by omega)]; omega
        · rw [if_neg h2] at ih; rw [if_neg (by omega)]; omega
      · rw [if_neg h1, if_neg h3]
        have e1 : (a < j + 1) = (a < j) := by apply propext; omega
        have e2 : (b < j + 1) = (b < j) := by apply propext; omega
        simp only [e1, e2, Nat.sub_zero, Nat.add_zero]
        omega
theorem zsh_lt {n a b : Nat} (ha : 0 < dg n a) (h : n < 16 ^ 16) (hbd : dg n b < 15) (hab : a ≠ b) (hb : b ≤ 15) : zsh n a b < 16 ^ 16 := by
  have h1 := dg_le ha
  rcases Nat.lt_or_ge (zsh n a b) (16 ^ 16) with h2 | h2
  · exact h2
  · exfalso
    have h3 : zsh n a b < 2 * 16 ^ 16 := by
      have : (16 : Nat) ^ b ≤ 16 ^ 16 := Nat.pow_le_pow_right (by decide) (by omega)
      have h7 := Nat.sub_le n (16 ^ a)
      unfold zsh
      omega
    have h4 := dg_sh ha hbd hab 16
    have h5 : dg n 16 = 0 := by rw [dg, Nat.div_eq_of_lt h]
    rw [h5, if_neg (show ¬ 16 = b by omega)] at h4
    have h6 : dg (zsh n a b) 16 = 1 := by
      rw [dg]
      have : zsh n a b / 16 ^ 16 = 1 := by omega
      rw [this]
    rw [h6] at h4
    omega
theorem zok_sh {k n a b : Nat} (h : zok k n) (ha : 0 < dg n a) (hal : a ≤ 15) (hb : b ≤ 15) (hab : a ≠ b) : zok k (zsh n a b) := by
  have hbd : dg n b < 15 := by have := zok_dg h b hb; omega
  refine ⟨h.1, zsh_lt ha h.2.1 hbd hab hb, ?_⟩
  have := dsum_sh ha hbd hab 16
  rw [if_pos (by omega), if_pos (by omega)] at this
  have := h.2.2
  omega
theorem psum_shk {k n a b : Nat} (h : zok k n) (ha : 0 < dg n a) (hal : a ≤ 15) (hb : b ≤ 15) (hab : a ≠ b) : psum (zsh n a b) 16 + a = psum n 16 + b := by
  have hbd : dg n b < 15 := by have := zok_dg h b hb; omega
  have := psum_sh ha hbd hab 16
  rwa [if_pos (by omega), if_pos (by omega)] at this
/-- all home: no digit below place 15 -/
theorem dsum_mod (n : Nat) : ∀ j, n % 16 ^ j = 0 ↔ dsum n j = 0 := by
  intro j
  induction j with
  | zero => simp [dsum, Nat.mod_one]
  | succ j ih =>
    rw [Nat.mod_pow_succ]
    show _ ↔ dsum n j + dg n j = 0
    have hp : 0 < (16 : Nat) ^ j := Nat.pow_pos (by decide)
    constructor
    · intro h
      have h1 : n % 16 ^ j = 0 := by omega
      have h2 : 16 ^ j * (n / 16 ^ j % 16) = 0 := by omega
      have h3 : n / 16 ^ j % 16 = 0 := by
        rcases Nat.mul_eq_zero.mp h2 with e | e
        · omega
        · exact e
      have h4 := ih.mp h1
      show dsum n j + n / 16 ^ j % 16 = 0
      omega
    · intro h
      have h1 := ih.mpr (by omega)
      have h2 : n / 16 ^ j % 16 = 0 := by
        have : dg n j = 0 := by omega
        exact this
      rw [h1, h2, Nat.mul_zero]
theorem zhome_iff {k n : Nat} (h : zok k n) : zhome n = true ↔ dg n 15 = k := by
  have h1 : (2 : Nat) ^ 60 = 16 ^ 15 := by decide
  have h2 : dsum n 15 + dg n 15 = k := h.2.2
  rw [zhome, h1, beq_iff_eq, dsum_mod]
  omega
theorem zcm_spec {own oth fr m : Nat} (h : zcm own oth fr m = true) : 0 < m ∧ 0 < dg own fr ∧ fr + m ≤ 15 := by
  unfold zcm at h
  simp only [Bool.and_eq_true, decide_eq_true_eq] at h
  refine ⟨h.1.1, h.1.2, ?_⟩
  have h2 := h.2
  unfold zcen at h2
  split at h2
  · rw [beq_iff_eq] at h2; omega
  · omega
theorem ztk_spec {oth p : Nat} (h : ztk oth p = true) : 5 ≤ p ∧ p ≤ 12 ∧ 0 < dg oth p := by
  unfold ztk zshr at h
  simp only [Bool.and_eq_true, decide_eq_true_eq] at h
  exact ⟨h.1.1, h.1.2, h.2⟩

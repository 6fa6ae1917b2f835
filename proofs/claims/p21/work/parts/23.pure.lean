/-! numbers and rows of counts: rows kept from the proof of whole, and new ones -/
def zHf (F : Nat → Int32) (b sd n : Nat) : Prop := ∀ p, p < 16 → F (b + 16 * sd + p) = nI (dg n p)
def zRow (F : Nat → Int32) (b sd own oth : Nat) : Prop := zHf F b sd own ∧ zHf F b (1 - sd) oth
theorem zRow.sw {F : Nat → Int32} {b sd own oth : Nat} (hs : sd ≤ 1) (h : zRow F b sd own oth) : zRow F b (1 - sd) oth own := ⟨h.2, by rw [show 1 - (1 - sd) = sd by omega]; exact h.1⟩
theorem zin_nat {lo p hi : Nat} (h1 : lo < 2 ^ 31) (h2 : p < 2 ^ 31) (h3 : hi < 2 ^ 31) : (decide (nI lo ≤ nI p) && decide (nI p ≤ nI hi)) = (decide (lo ≤ p) && decide (p ≤ hi)) := by
  congr 1
  · exact decide_eq_decide.mpr (nI_leI h1 h2)
  · exact decide_eq_decide.mpr (nI_leI h2 h3)
theorem zcm_no1 {own oth fr mm : Nat} (h : mm = 0 ∨ 15 < fr + mm ∨ dg own fr = 0) : zcm own oth fr mm = false := by
  cases e : zcm own oth fr mm
  · rfl
  · exfalso; have := zcm_spec e; omega
theorem zcm_15 {own oth fr mm : Nat} (h0 : 0 < mm) (h1 : 0 < dg own fr) (h2 : fr + mm = 15) : zcm own oth fr mm = true := by
  rw [zcm, decide_eq_true h0, decide_eq_true h1, zcen, if_pos (by omega), h2]; rfl
theorem zcm_own {own oth fr mm : Nat} (h2 : fr + mm < 15) (h3 : 0 < dg own (fr + mm)) : zcm own oth fr mm = false := by
  rw [zcm, zcen, if_neg (by omega), decide_eq_true h3]; simp
theorem zcm_n8 {own oth fr mm : Nat} (h0 : 0 < mm) (h1 : 0 < dg own fr) (h2 : fr + mm < 15) (h3 : dg own (fr + mm) = 0) (h4 : ¬ fr + mm = 8) : zcm own oth fr mm = true := by
  rw [zcm, zcen, if_neg (by omega), decide_eq_true h0, decide_eq_true h1, decide_eq_false (show ¬ 0 < dg own (fr + mm) by omega), show (fr + mm == 8) = false from beq_eq_false_iff_ne.mpr h4]; simp
theorem zcm_8 {own oth fr mm : Nat} (h0 : 0 < mm) (h1 : 0 < dg own fr) (h3 : dg own (fr + mm) = 0) (h4 : fr + mm = 8) : zcm own oth fr mm = decide (dg oth 8 = 0) := by
  rw [zcm, zcen, if_neg (by omega), decide_eq_true h0, decide_eq_true h1, decide_eq_false (show ¬ 0 < dg own (fr + mm) by omega), h4]
  by_cases h5 : dg oth 8 = 0
  · rw [decide_eq_true h5, h5]; rfl
  · rw [decide_eq_false h5, decide_eq_true (show 0 < dg oth 8 by omega)]; rfl
/-- the last place below i that holds a piece, or none -/
def zls (n : Nat) : Nat → Int32
  | 0 => -1
  | i + 1 => if 0 < dg n i then nI i else zls n i
theorem zls_s (n i : Nat) : zls n (i + 1) = if 0 < dg n i then nI i else zls n i := rfl
theorem dsum_one (n : Nat) : ∀ j, dsum n j = 1 → ∃ q, q < j ∧ dg n q = 1 ∧ ∀ x, x < j → x ≠ q → dg n x = 0 := by
  intro j
  induction j with
  | zero => intro h; cases h
  | succ j ih =>
    intro h
    have h0 : dsum n j + dg n j = 1 := h
    by_cases h1 : dsum n j = 1
    · obtain ⟨q, h2, h3, h4⟩ := ih h1
      refine ⟨q, by omega, h3, fun x hx hn => ?_⟩
      rcases Nat.lt_or_ge x j with h5 | h5
      · exact h4 x h5 hn
      · rw [show x = j by omega]; omega
    · refine ⟨j, by omega, by omega, fun x hx hn => ?_⟩
      have := dsum_mono n j x (by omega)
      omega
theorem zls_q {n q : Nat} (hq : dg n q = 1) : ∀ i, q < i → (∀ x, x < i → x ≠ q → dg n x = 0) → zls n i = nI q := by
  intro i
  induction i with
  | zero => intro h; omega
  | succ i ih =>
    intro h h0
    rw [zls_s]
    rcases Nat.lt_or_ge q i with h1 | h1
    · rw [if_neg (by rw [h0 i (by omega) (by omega)]; omega)]
      exact ih h1 (fun x hx => h0 x (by omega))
    · have e : i = q := by omega
      subst e
      rw [if_pos (by omega)]
theorem zfs_q {n q : Nat} (hq : dg n q = 1) : ∀ j p, p ≤ q → q < p + j → (∀ x, x < q → dg n x = 0) → zfs n p j = q := by
  intro j
  induction j with
  | zero => intro p h1 h2; omega
  | succ j ih =>
    intro p h1 h2 h0
    rw [zfs_s]
    by_cases h3 : p = q
    · subst h3
      rw [if_neg (by omega)]
    · rw [if_pos (h0 p (by omega))]
      exact ih (p + 1) (by omega) (by omega) h0
theorem zls_fs {k n : Nat} (h : zok k n) (h1 : 1 ≤ k) (h2 : dg n 15 = k - 1) : zls n 15 = nI (zfs n 0 15) := by
  have h3 : dsum n 15 + dg n 15 = k := h.2.2
  obtain ⟨q, h4, h5, h6⟩ := dsum_one n 15 (by omega)
  rw [zls_q h5 15 h4 h6, zfs_q h5 15 0 (Nat.zero_le _) (by omega) (fun x hx => h6 x (by omega) (by omega))]
/-- the only place of a piece that isn't home, or none -/
theorem zupd_lt {f : Nat → Int32} {i q : Nat} {x : Int32} (h : q < i) : upd f i x q = f q := pk_un (by omega)
theorem zkeep {f g : Nat → Int32} {n ix : Nat} {x : Int32} (h : ∀ q, q < n → g q = f q) (hn : n ≤ ix) : ∀ q, q < n → upd g ix x q = f q := fun q hq => by rw [zupd_lt (by omega)]; exact h q hq
theorem zcp_0 {g v : Nat → Int32} {i : Nat} {x : Int32} (h : ∀ j, j < i → g j = v j) (hx : x = v i) : ∀ j, j < i + 1 → upd g i x j = v j := by
  intro j hj
  rcases Nat.lt_or_ge j i with h1 | h1
  · rw [zupd_lt (by omega)]; exact h j h1
  · rw [show j = i by omega, pk_us]; exact hx
theorem zupd_gt {f : Nat → Int32} {i q : Nat} {x : Int32} (h : i < q) : upd f i x q = f q := pk_un (by omega)
/-- the worth for the side of a height -/
theorem ztk_n1 {oth p : Nat} (h : zshr p = false) : ztk oth p = false := by rw [ztk, h]; rfl
theorem ztk_n2 {oth p : Nat} (h : dg oth p ≤ 0) : ztk oth p = false := by rw [ztk, decide_eq_false (by omega), Bool.and_false]
theorem ztk_y {oth p : Nat} (h : zshr p = true) (h2 : ¬ dg oth p ≤ 0) : ztk oth p = true := by rw [ztk, h, decide_eq_true (by omega)]; rfl
/-- rows, sides, marks, next places, best worths, sums -/
theorem zRow_cg {F G : Nat → Int32} {b sd own oth : Nat} (hsd : sd ≤ 1) (h : zRow F b sd own oth) (hg : ∀ q, b ≤ q → q < b + 32 → G q = F q) : zRow G b sd own oth :=
  ⟨fun p hp => by rw [hg _ (by omega) (by omega)]; exact h.1 p hp, fun p hp => by rw [hg _ (by omega) (by omega)]; exact h.2 p hp⟩
theorem zRow_cp {F G : Nat → Int32} {b c sd own oth : Nat} (hsd : sd ≤ 1) (h : zRow F b sd own oth) (hg : ∀ j, j < 32 → G (c + j) = F (b + j)) : zRow G c sd own oth :=
  ⟨fun p hp => by rw [Nat.add_assoc, hg _ (by omega), ← Nat.add_assoc]; exact h.1 p hp, fun p hp => by rw [Nat.add_assoc, hg _ (by omega), ← Nat.add_assoc]; exact h.2 p hp⟩
theorem nI_nm {x : Nat} (h : x ≤ 1000000000) : ¬ nI x = -1 := by
  intro c
  have h5 : (nI x).toInt = -1 := by rw [c]; rfl
  rw [nI_toInt (by omega)] at h5
  omega
/-- what goesOn leaves -/
theorem zok_tk {k oth p : Nat} (hQ : zok k oth) (hp : p ≤ 15) : zok k (if ztk oth p = true then zsh oth p 0 else oth) := by
  split
  · rename_i h
    obtain ⟨h1, h2, h3⟩ := ztk_spec h
    exact zok_sh hQ h3 hp (by omega) (by omega)
  · exact hQ
theorem zBM_r {V : Nat → Nat → Nat} {own oth fr m : Nat} (h : zhome (zsh own fr (fr + m)) = false) (hr : zros (fr + m) = true) : zBM V own oth fr m = V (zsh own fr (fr + m)) (if ztk oth (fr + m) = true then zsh oth (fr + m) 0 else oth) := by
  unfold zBM
  rw [if_neg (c := zhome (zsh own fr (fr + m)) = true) (by rw [h]; decide), if_pos hr]
theorem zBM_o {V : Nat → Nat → Nat} {own oth fr m : Nat} (h : zhome (zsh own fr (fr + m)) = false) (hr : zros (fr + m) = false) : zBM V own oth fr m = 1000000000 - V (if ztk oth (fr + m) = true then zsh oth (fr + m) 0 else oth) (zsh own fr (fr + m)) := by
  unfold zBM
  rw [if_neg (c := zhome (zsh own fr (fr + m)) = true) (by rw [h]; decide), if_neg (c := zros (fr + m) = true) (by rw [hr]; decide)]
theorem zcm_0 (own oth fr : Nat) : zcm own oth fr 0 = false := zcm_no1 (Or.inl rfl)
theorem zmk_0 {mk : Int32} {mm : Nat} (h : zmk mk mm) (hm : mm ≤ 4) (c : mk = -1) : mm = 0 := by
  rcases h with h | h
  · exact absurd (h.symm.trans c) (nI_nm (by omega))
  · exact h.2
theorem zmost_n {k d own oth mm i : Nat} {x : Nat} (hx : x = zBst (fun fr => zBM (zV k d) own oth fr mm) own oth mm i) (c : ¬ nI x < zWB k d own oth mm i) : x = zBst (fun fr => zBM (zV k d) own oth fr mm) own oth mm (i + 1) := by
  have h1 := zBst_le (g := fun fr => zBM (zV k d) own oth fr mm) (fun a => zBM_le (zV_le k d) _ _ _ _) own oth mm i
  have h2 := zBM_le (zV_le k d) own oth i mm
  rw [zBst_s]
  split
  · rename_i h
    rw [zWB, if_pos h] at c
    have h3 : ¬ x < zBM (zV k d) own oth i mm := fun h9 => c ((nI_ltI (by omega) (by omega)).mpr h9)
    rw [← hx, Nat.max_eq_left (by omega)]
  · exact hx
theorem zmost_y {k d own oth mm i : Nat} {x : Nat} (hx : x = zBst (fun fr => zBM (zV k d) own oth fr mm) own oth mm i) (c : nI x < zWB k d own oth mm i) : ∃ y, y = zBst (fun fr => zBM (zV k d) own oth fr mm) own oth mm (i + 1) ∧ zWB k d own oth mm i = nI y := by
  have h1 := zBst_le (g := fun fr => zBM (zV k d) own oth fr mm) (fun a => zBM_le (zV_le k d) _ _ _ _) own oth mm i
  have h2 := zBM_le (zV_le k d) own oth i mm
  by_cases h : zcm own oth i mm = true
  · rw [zWB, if_pos h] at c ⊢
    have h3 : x < zBM (zV k d) own oth i mm := (nI_ltI (by omega) (by omega)).mp c
    refine ⟨_, ?_, rfl⟩
    rw [zBst_s, if_pos h, ← hx, Nat.max_eq_right (by omega)]
  · exfalso
    rw [zWB, if_neg h, Int32.lt_iff_toInt_lt, nI_toInt (by omega)] at c
    have : (-1 : Int32).toInt = -1 := rfl
    omega
theorem zst_row {j : Nat} (hj : j ≤ 4) {g : Nat → Int32} (h : ∀ q, q < 32 → g q = (if q % 16 = 0 then nI j else 0)) : zRow g 0 0 j j := by
  have key : ∀ p, p < 16 → (if p = 0 then nI j else 0) = nI (dg j p) := by
    intro p hp
    by_cases h0 : p = 0
    · subst h0
      rw [if_pos rfl, dg, Nat.pow_zero, Nat.div_one, Nat.mod_eq_of_lt (by omega)]
    · have h2 : (16 : Nat) ^ 1 ≤ 16 ^ p := Nat.pow_le_pow_right (by decide) (by omega)
      rw [if_neg h0, dg, Nat.div_eq_of_lt (by omega)]
      rfl
  refine ⟨fun p hp => ?_, fun p hp => ?_⟩
  · rw [h _ (by omega), ← key p hp, show (0 + 16 * 0 + p) % 16 = p by omega]
  · rw [h _ (by omega), ← key p hp, show (0 + 16 * (1 - 0) + p) % 16 = p by omega]
theorem zst_s {j i : Nat} {g : Nat → Int32} {x : Int32} (h : ∀ q, q < i → g q = (if q % 16 = 0 then nI j else 0)) (hx : x = (if i % 16 = 0 then nI j else 0)) : ∀ q, q < i + 1 → upd g i x q = (if q % 16 = 0 then nI j else 0) := by
  intro q hq
  rcases Nat.lt_or_ge q i with h1 | h1
  · rw [pk_un (by omega)]; exact h q h1
  · rw [show q = i by omega, pk_us, hx]
theorem fa_lt (a b : Int32) : a < b ↔ a.toInt < b.toInt := Int32.lt_iff_toInt_lt
theorem fa_le (a b : Int32) : a ≤ b ↔ a.toInt ≤ b.toInt := Int32.le_iff_toInt_le
theorem fa_eq (a b : Int32) : a = b ↔ a.toInt = b.toInt := Int32.toInt_inj.symm
theorem fa_three (a b : Int32) : a < b ∨ a = b ∨ b < a := by
  rw [fa_lt, fa_lt, fa_eq]
  omega
/-! counts, ranks, the move of an index: the class's way and the reference's agree -/
def zct (P : Nat → Bool) : Nat → Nat
  | 0 => 0
  | j + 1 => zct P j + (if P j = true then 1 else 0)
theorem zct_s (P : Nat → Bool) (j : Nat) : zct P (j + 1) = zct P j + (if P j = true then 1 else 0) := rfl
theorem zct_le {P Q : Nat → Bool} : ∀ n, (∀ j, j < n → P j = true → Q j = true) → zct P n ≤ zct Q n := by
  intro n
  induction n with
  | zero => intro _; exact Nat.le_refl _
  | succ n ih =>
    intro h
    have h1 := ih (fun j hj => h j (by omega))
    rw [zct_s, zct_s]
    by_cases hp : P n = true
    · rw [if_pos hp, if_pos (h n (by omega) hp)]; omega
    · rw [if_neg hp]; omega
theorem zct_lt {P Q : Nat → Bool} {x : Nat} : ∀ n, (∀ j, j < n → P j = true → Q j = true) → x < n → Q x = true → P x = false → zct P n < zct Q n := by
  intro n
  induction n with
  | zero => intro _ h; omega
  | succ n ih =>
    intro h hx hq hp
    rw [zct_s, zct_s]
    rcases Nat.lt_or_ge x n with h1 | h1
    · have h2 := ih (fun j hj => h j (by omega)) h1 hq hp
      by_cases hp2 : P n = true
      · rw [if_pos hp2, if_pos (h n (by omega) hp2)]; omega
      · rw [if_neg hp2]; omega
    · have e : x = n := by omega
      subst e
      have h2 := zct_le x (fun j hj => h j (by omega))
      rw [if_pos hq, if_neg (by rw [hp]; decide)]
      omega
theorem zct_b (P : Nat → Bool) : ∀ n, zct P n ≤ n := by
  intro n
  induction n with
  | zero => exact Nat.le_refl _
  | succ n ih => rw [zct_s]; split <;> omega
theorem zCB_ct (wb : Nat → Int32) (pl : Nat) (w : Int32) : ∀ j, zCB wb pl w j = zct (fun j => decide (w < wb j ∨ (wb j = w ∧ j < pl))) j := by
  intro j
  induction j with
  | zero => rfl
  | succ j ih => rw [zCB_s, zct_s, ih]; simp only [decide_eq_true_eq]
theorem zNum_ct (own oth m : Nat) : ∀ j, zNum own oth m j = zct (fun j => zcm own oth j m) j := by
  intro j
  induction j with
  | zero => rfl
  | succ j ih => rw [zNum_s, zct_s, ih]
theorem zNum_0 (own oth : Nat) : ∀ j, zNum own oth 0 j = 0 := by
  intro j
  induction j with
  | zero => rfl
  | succ j ih => rw [zNum_s, ih, if_neg (by rw [zcm_0]; decide)]
theorem zNum_mono (own oth m : Nat) {i : Nat} : ∀ j, i < j → zcm own oth i m = true → zNum own oth m i < zNum own oth m j := by
  intro j
  induction j with
  | zero => intro h; omega
  | succ j ih =>
    intro h hc
    rw [zNum_s]
    rcases Nat.lt_or_ge i j with h1 | h1
    · have := ih h1 hc; omega
    · rw [show j = i by omega, if_pos hc]; omega
theorem zHas_num (own oth m : Nat) : ∀ j, zHas own oth m j = true ↔ zNum own oth m j ≠ 0 := by
  intro j
  induction j with
  | zero => exact ⟨fun h => (by cases h), fun h => absurd rfl h⟩
  | succ j ih =>
    rw [zHas_s, zNum_s, Bool.or_eq_true, ih]
    by_cases h : zcm own oth j m = true
    · rw [if_pos h]; simp [h]
    · rw [if_neg h]; simp [h]
/-- the last move below i ahead of which idx others are -/
def zMF (own oth mm : Nat) (idx : Int32) : Nat → Int32
  | 0 => -1
  | i + 1 => if zcm own oth i mm = true ∧ nI (zNum own oth mm i) = idx then nI i else zMF own oth mm idx i
theorem zMF_s (own oth mm : Nat) (idx : Int32) (i : Nat) : zMF own oth mm idx (i + 1) = if zcm own oth i mm = true ∧ nI (zNum own oth mm i) = idx then nI i else zMF own oth mm idx i := rfl
theorem zMF_no {own oth mm : Nat} {idx : Int32} : ∀ i, (∀ j, j < i → ¬ (zcm own oth j mm = true ∧ nI (zNum own oth mm j) = idx)) → zMF own oth mm idx i = -1 := by
  intro i
  induction i with
  | zero => intro _; rfl
  | succ i ih => intro h; rw [zMF_s, if_neg (h i (by omega))]; exact ih (fun j hj => h j (by omega))
theorem zMF_eq {own oth mm : Nat} {idx : Int32} : ∀ i, i ≤ 15 → zMA own oth mm idx 0 15 = if zMF own oth mm idx i = -1 then zMA own oth mm idx i (15 - i) else zMF own oth mm idx i := by
  intro i
  induction i with
  | zero => intro _; rfl
  | succ i ih =>
    intro hi
    rw [ih (by omega), zMF_s]
    by_cases h : zcm own oth i mm = true ∧ nI (zNum own oth mm i) = idx
    · have h1 : zMF own oth mm idx i = -1 := zMF_no i (fun j hj hm => by
        have h2 := zNum_mono own oth mm i hj hm.1
        have h3 := zNum_le own oth mm i
        have h4 := (nI_eq (by omega) (by omega)).mp (hm.2.trans h.2.symm)
        omega)
      rw [if_pos h, if_pos h1, if_neg (nI_nm (by omega)), show 15 - i = (15 - (i + 1)) + 1 by omega, zMA_s, if_pos h]
    · rw [if_neg h]
      by_cases h1 : zMF own oth mm idx i = -1
      · rw [if_pos h1, if_pos h1, show 15 - i = (15 - (i + 1)) + 1 by omega, zMA_s, if_neg h]
      · rw [if_neg h1, if_neg h1]
theorem zMF_15 (own oth mm : Nat) (idx : Int32) : zMF own oth mm idx 15 = zMA own oth mm idx 0 15 := by
  rw [zMF_eq 15 (by omega)]
  split
  · rename_i h; rw [h]; rfl
  · rfl
theorem zMA_neg {own oth mm : Nat} {idx : Int32} (h : idx < 0) : zMA own oth mm idx 0 15 = -1 := by
  rw [← zMF_15]
  refine zMF_no 15 (fun j hj hm => ?_)
  have h3 := zNum_le own oth mm j
  rw [← hm.2] at h
  have := (nI_ltI (a := zNum own oth mm j) (b := 0) (by omega) (by omega)).mp h
  omega
theorem zMA_0 {own oth : Nat} {idx : Int32} : zMA own oth 0 idx 0 15 = -1 := by
  rw [← zMF_15]
  exact zMF_no 15 (fun j _ hm => by rw [zcm_0] at hm; cases hm.1)
/-- the last place below i of this rank -/
def zRF (wb : Nat → Int32) (rank : Int32) : Nat → Int32
  | 0 => -1
  | i + 1 => if ¬ wb i = -1 ∧ nI (zCB wb i (wb i) 15) = rank then nI i else zRF wb rank i
theorem zRF_s (wb : Nat → Int32) (rank : Int32) (i : Nat) : zRF wb rank (i + 1) = if ¬ wb i = -1 ∧ nI (zCB wb i (wb i) 15) = rank then nI i else zRF wb rank i := rfl
theorem zRF_no {wb : Nat → Int32} {rank : Int32} : ∀ i, (∀ j, j < i → ¬ (¬ wb j = -1 ∧ nI (zCB wb j (wb j) 15) = rank)) → zRF wb rank i = -1 := by
  intro i
  induction i with
  | zero => intro _; rfl
  | succ i ih => intro h; rw [zRF_s, if_neg (h i (by omega))]; exact ih (fun j hj => h j (by omega))
theorem zCB_le (wb : Nat → Int32) (pl : Nat) (w : Int32) (j : Nat) : zCB wb pl w j ≤ j := by rw [zCB_ct]; exact zct_b _ _
theorem zCB_ne {wb : Nat → Int32} {a b : Nat} (ha : a < 15) (hb : b < 15) (hab : a ≠ b) : zCB wb a (wb a) 15 ≠ zCB wb b (wb b) 15 := by
  have key : ∀ x y : Nat, x < 15 → y < 15 → (wb y < wb x ∨ (wb x = wb y ∧ x < y)) → zCB wb x (wb x) 15 < zCB wb y (wb y) 15 := by
    intro x y hx hy hxy
    rw [zCB_ct, zCB_ct]
    refine zct_lt (x := x) 15 (fun j _ hj => ?_) hx (decide_eq_true hxy) (decide_eq_false ?_)
    · have hj := of_decide_eq_true hj
      refine decide_eq_true ?_
      rcases hj with h1 | ⟨h1, h2⟩
      · rcases hxy with h3 | ⟨h3, h4⟩
        · exact Or.inl (Int32.lt_trans h3 h1)
        · exact Or.inl (by rw [← h3]; exact h1)
      · rcases hxy with h3 | ⟨h3, h4⟩
        · exact Or.inl (by rw [h1]; exact h3)
        · exact Or.inr ⟨h1.trans h3, by omega⟩
    · rintro (h1 | ⟨-, h1⟩)
      · exact Int32.lt_irrefl h1
      · omega
  rcases fa_three (wb a) (wb b) with h | h | h
  · have := key b a hb ha (Or.inl h); omega
  · rcases Nat.lt_or_ge a b with h2 | h2
    · have := key a b ha hb (Or.inr ⟨h, h2⟩); omega
    · have := key b a hb ha (Or.inr ⟨h.symm, by omega⟩); omega
  · have := key a b ha hb (Or.inl h); omega
theorem zRF_eq {wb : Nat → Int32} {rank : Int32} : ∀ i, i ≤ 15 → zRk wb rank 0 15 = if zRF wb rank i = -1 then zRk wb rank i (15 - i) else zRF wb rank i := by
  intro i
  induction i with
  | zero => intro _; rfl
  | succ i ih =>
    intro hi
    rw [ih (by omega), zRF_s]
    by_cases h : ¬ wb i = -1 ∧ nI (zCB wb i (wb i) 15) = rank
    · have h1 : zRF wb rank i = -1 := zRF_no i (fun j hj hm => by
        have h2 := zCB_le wb i (wb i) 15
        have h3 := zCB_le wb j (wb j) 15
        have h4 := (nI_eq (by omega) (by omega)).mp (hm.2.trans h.2.symm)
        exact zCB_ne (by omega) (by omega) (by omega) h4)
      rw [if_pos h, if_pos h1, if_neg (nI_nm (by omega)), show 15 - i = (15 - (i + 1)) + 1 by omega, zRk_s, if_pos h]
    · rw [if_neg h]
      by_cases h1 : zRF wb rank i = -1
      · rw [if_pos h1, if_pos h1, show 15 - i = (15 - (i + 1)) + 1 by omega, zRk_s, if_neg h]
      · rw [if_neg h1, if_neg h1]
theorem zRF_15 (wb : Nat → Int32) (rank : Int32) : zRF wb rank 15 = zRk wb rank 0 15 := by
  rw [zRF_eq 15 (by omega)]
  split
  · rename_i h; rw [h]; rfl
  · rfl
theorem zWB_ge (k d own oth mm j : Nat) : zWB k d own oth mm j = -1 ∨ (zcm own oth j mm = true ∧ ∃ x, x ≤ 1000000000 ∧ zWB k d own oth mm j = nI x) := by
  by_cases h : zcm own oth j mm = true
  · exact Or.inr ⟨h, _, zBM_le (zV_le k d) own oth j mm, if_pos h⟩
  · exact Or.inl (if_neg h)
theorem zWB_rk {k d own oth mm p : Nat} (hp : p < 15) (h : ¬ zWB k d own oth mm p = -1) : zCB (zWB k d own oth mm) p (zWB k d own oth mm p) 15 < zNum own oth mm 15 := by
  rw [zCB_ct, zNum_ct]
  rcases zWB_ge k d own oth mm p with h1 | ⟨h1, x, hx, h2⟩
  · exact absurd h1 h
  · refine zct_lt (x := p) 15 (fun j _ hj => ?_) hp h1 (decide_eq_false ?_)
    · have hj := of_decide_eq_true hj
      rcases zWB_ge k d own oth mm j with h3 | ⟨h3, -⟩
      · exfalso
        rw [h3, h2] at hj
        rcases hj with h4 | ⟨h4, -⟩
        · rw [Int32.lt_iff_toInt_lt, nI_toInt (by omega)] at h4
          have : (-1 : Int32).toInt = -1 := rfl
          omega
        · exact nI_nm hx h4.symm
      · exact h3
    · rintro (h3 | ⟨-, h3⟩)
      · exact Int32.lt_irrefl h3
      · omega
theorem zRk_out {k d own oth mm : Nat} {rank : Int32} (h : ¬ rank < nI (zNum own oth mm 15)) : zRk (zWB k d own oth mm) rank 0 15 = -1 := by
  rw [← zRF_15]
  refine zRF_no 15 (fun j hj hm => h ?_)
  have h1 := zWB_rk hj hm.1
  have h2 := zNum_le own oth mm 15
  rw [← hm.2]
  exact (nI_ltI (by omega) (by omega)).mpr h1
/-- the reference's count of what ranks ahead -/
theorem zRow_sel {F : Nat → Int32} {sd own oth s p : Nat} (hsd : sd ≤ 1) (h : zRow F 0 sd own oth) (hs : s ≤ 1) (hp : p ≤ 15) : F (16 * s + p) = nI (dg (if s = sd then own else oth) p) := by
  by_cases e : s = sd
  · rw [if_pos e, e, show 16 * sd + p = 0 + 16 * sd + p by omega]; exact h.1 p (by omega)
  · rw [if_neg e, show 16 * s + p = 0 + 16 * (1 - sd) + p by omega]; exact h.2 p (by omega)
theorem zRow_half {F : Nat → Int32} {sd own oth s : Nat} (hsd : sd ≤ 1) (h : zRow F 0 sd own oth) (hs : s ≤ 1) : zHf F 0 s (if s = sd then own else oth) := fun p hp => by
  rw [show 0 + 16 * s + p = 16 * s + p by omega]; exact zRow_sel hsd h hs (by omega)
theorem z_n64 {x : UInt64} : vf_n64 x ↔ FP.Core.dIsNaN x = false := by
  rw [← Bool.not_eq_true, FP.Core.isNaN_bits]
  unfold vf_n64
  rw [UInt64.le_iff_toNat_le, UInt64.toNat_and]
  have h1 : (0x7fffffffffffffff : UInt64).toNat = 2 ^ 63 - 1 := by decide
  have h2 : (0x7ff0000000000000 : UInt64).toNat = 9218868437227405312 := by decide
  rw [h1, h2, Nat.and_two_pow_sub_one_eq_mod]
  omega
theorem zch (x : Int32) : vf_n64 (FP.ddiv (FP.i2d x) 4741671816366391296) :=
  z_n64.mpr (FP.Core.ddiv_out ((FP.Core.notNaN_iff _).mpr (FP.Core.i2d_fin x).ne_nan) ((FP.Core.fin_bits _).mpr (by decide)) (fun h => absurd ((FP.Core.zero_bits2 _).mp h) (by decide)))
theorem zch_self (x : Int32) : FP.dcmp (FP.ddiv (FP.i2d x) 4741671816366391296) (FP.ddiv (FP.i2d x) 4741671816366391296) = some .eq := FP.Core.dcmp_self ((FP.Core.notNaN_iff _).mp (z_n64.mp (zch x)))
def zCh (x : Int32) : UInt64 := FP.ddiv (FP.i2d x) 4741671816366391296
theorem zD_of {A : Nat → Prop} : {ws : va_W} → va_D A ws → zD A (ws.map Prod.fst)
  | [], _ => ⟨List.nodup_nil, fun _ h => by cases h⟩
  | x :: ws, h => by
    have ih := zD_of (ws := ws) ⟨fun i j p q hi hj e => Nat.succ.inj (h.1 (i + 1) (j + 1) p q hi hj e), fun k q hk => h.2 (k + 1) q hk⟩
    refine ⟨List.nodup_cons.mpr ⟨fun hm => ?_, ih.1⟩, fun a ha => ?_⟩
    · obtain ⟨q, hq, e⟩ := List.mem_map.mp hm
      obtain ⟨k, hk⟩ := List.mem_iff_getElem?.mp hq
      exact absurd (h.1 0 (k + 1) x q rfl hk e.symm) (by omega)
    · rcases List.mem_cons.mp ha with ha | ha
      · rw [ha]; exact h.2 0 x rfl
      · exact ih.2 a ha
/-! new rows -/
/-- a piece goes from a to b in the half sd -/
theorem zl_half {F : Nat → Int32} {k sd own oth a b : Nat} (hsd : sd ≤ 1) (hr : zRow F 0 sd own oth) (hO : zok k own) (hd : 0 < dg own a) (ha : a ≤ 15) (hb : b ≤ 15) (hab : a ≠ b) :
    zRow (upd (upd F (16 * sd + a) (nI (dg own a - 1))) (16 * sd + b) (nI (dg own b + 1))) 0 sd (zsh own a b) oth := by
  have hb4 : dg own b < 15 := by have := zok_dg hO b hb; omega
  refine ⟨fun p hp => ?_, fun p hp => ?_⟩
  · rw [dg_sh hd hb4 hab, Nat.zero_add]
    by_cases h1 : p = b
    · subst h1
      rw [pk_us, if_neg (fun e => hab e.symm), if_pos rfl, Nat.sub_zero]
    · rw [pk_un (by omega)]
      by_cases h2 : p = a
      · subst h2
        rw [pk_us, if_pos rfl, if_neg h1, Nat.add_zero]
      · rw [pk_un (by omega), if_neg h2, if_neg h1, Nat.add_zero, Nat.sub_zero]
        have := hr.1 p hp
        rwa [Nat.zero_add] at this
  · rw [pk_un (by omega), pk_un (by omega)]
    exact hr.2 p hp
theorem zcm_free {own oth fr m : Nat} (h : zcm own oth fr m = true) (h2 : fr + m < 15) : dg own (fr + m) = 0 := by
  rcases Nat.eq_zero_or_pos (dg own (fr + m)) with e | e
  · exact e
  · rw [zcm_own h2 e] at h; cases h
/-- at each shared place lies one piece at most -/
def zgd (own oth : Nat) : Prop := ∀ p, 5 ≤ p → p ≤ 12 → dg own p + dg oth p ≤ 1
theorem zgd.sw {own oth : Nat} (h : zgd own oth) : zgd oth own := fun p h1 h2 => by have := h p h1 h2; omega
theorem zgd_0 {j : Nat} (hj : j ≤ 4) : zgd j j := fun p h1 _ => by
  have h2 : (16 : Nat) ^ 1 ≤ 16 ^ p := Nat.pow_le_pow_right (by decide) (by omega)
  have h3 : dg j p = 0 := by rw [dg, Nat.div_eq_of_lt (by omega)]
  omega
theorem zgd_mv {k own oth fr m : Nat} (hO : zok k own) (hQ : zok k oth) (hg : zgd own oth) (hc : zcm own oth fr m = true) : zgd (zsh own fr (fr + m)) (if ztk oth (fr + m) = true then zsh oth (fr + m) 0 else oth) := by
  obtain ⟨hm, hd, hto⟩ := zcm_spec hc
  have hb1 := zok_dg hO (fr + m) hto
  have hb0 := zok_dg hQ 0 (by omega)
  intro p h5 h12
  have h0 := hg p h5 h12
  rw [dg_sh hd (by omega) (by omega)]
  by_cases hp : p = fr + m
  · subst hp
    have h1 : dg own (fr + m) = 0 := zcm_free hc (by omega)
    rw [if_neg (show ¬ fr + m = fr by omega), if_pos (show fr + m = fr + m from rfl)]
    by_cases ht : ztk oth (fr + m) = true
    · rw [if_pos ht]
      obtain ⟨_, _, h7⟩ := ztk_spec ht
      rw [dg_sh h7 (by omega) (by omega), if_pos (show fr + m = fr + m from rfl), if_neg (show ¬ fr + m = 0 by omega)]
      omega
    · rw [if_neg ht]
      rcases Nat.eq_zero_or_pos (dg oth (fr + m)) with e | e
      · omega
      · exact absurd (ztk_y (by rw [zshr, decide_eq_true h5, decide_eq_true h12]; rfl) (by omega)) ht
  · have e1 : dg own p - (if p = fr then 1 else 0) ≤ dg own p := Nat.sub_le _ _
    rw [if_neg hp]
    by_cases ht : ztk oth (fr + m) = true
    · rw [if_pos ht]
      obtain ⟨_, _, h7⟩ := ztk_spec ht
      rw [dg_sh h7 (by omega) (by omega), if_neg hp, if_neg (show ¬ p = 0 by omega)]
      omega
    · rw [if_neg ht]
      omega
theorem zfs_dg (n : Nat) : ∀ j p, zfs n p j < p + j → dg n (zfs n p j) ≠ 0 := by
  intro j
  induction j with
  | zero => intro p h; rw [zfs_z] at h; omega
  | succ j ih =>
    intro p h
    rw [zfs_s] at h ⊢
    by_cases h0 : dg n p = 0
    · rw [if_pos h0] at h ⊢
      exact ih (p + 1) (by omega)
    · rw [if_neg h0]
      exact h0
theorem zgd_end {k own oth : Nat} (hO : zok k own) (hQ : zok k oth) (hk : 1 ≤ k) (hg : zgd own oth) (h1 : dg own 15 = k - 1) (h2 : dg oth 15 = k - 1) : ¬ (zfs own 0 15 = zfs oth 0 15 ∧ zshr (zfs own 0 15) = true) := by
  rintro ⟨e, hs⟩
  have a1 := zfs_dg own 15 0 (by have := zfs_lt hO hk h1; omega)
  have a2 := zfs_dg oth 15 0 (by have := zfs_lt hQ hk h2; omega)
  rw [← e] at a2
  unfold zshr at hs
  simp only [Bool.and_eq_true, decide_eq_true_eq] at hs
  have := hg _ hs.1 hs.2
  omega
theorem zMA_at {own oth mm p : Nat} (hp : p < 15) (hc : zcm own oth p mm = true) : zMA own oth mm (nI (zNum own oth mm p)) 0 15 = nI p := by
  have e : zMF own oth mm (nI (zNum own oth mm p)) (p + 1) = nI p := by rw [zMF_s, if_pos ⟨hc, rfl⟩]
  rw [zMF_eq (p + 1) (by omega), e, if_neg (nI_nm (by omega))]
theorem zMA_end {own oth mm : Nat} : zMA own oth mm (nI (zNum own oth mm 15)) 0 15 = -1 := by
  rw [← zMF_15]
  refine zMF_no 15 (fun j hj hm => ?_)
  have h1 := zNum_mono own oth mm 15 hj hm.1
  have h2 := zNum_le own oth mm 15
  have := (nI_eq (by omega) (by omega)).mp hm.2
  omega
/-! ranks: the greatest is taken away again and again -/
theorem zct_cg {P Q : Nat → Bool} {n : Nat} (h : ∀ j, j < n → P j = Q j) : zct P n = zct Q n :=
  Nat.le_antisymm (zct_le n (fun j hj hp => (h j hj) ▸ hp)) (zct_le n (fun j hj hp => (h j hj).symm ▸ hp))
theorem zct_one {R : Nat → Bool} {b : Nat} (hb : R b = false) : ∀ n, zct (fun p => R p || p == b) n = zct R n + (if b < n then 1 else 0) := by
  intro n
  induction n with
  | zero => rfl
  | succ n ih =>
    rw [zct_s, zct_s, ih]
    by_cases h : n = b
    · subst h
      rw [if_neg (show ¬ n < n by omega), if_pos (show n < n + 1 by omega), hb]
      simp
    · have e : (n == b) = false := beq_eq_false_iff_ne.mpr h
      rw [e, Bool.or_false]
      by_cases h2 : b < n
      · rw [if_pos h2, if_pos (show b < n + 1 by omega)]; omega
      · rw [if_neg h2, if_neg (show ¬ b < n + 1 by omega)]; omega
/-- r of the worths wb have been taken away, the greatest first -/
def zRm (wb w : Nat → Int32) (r : Nat) : Prop :=
  ∃ R : Nat → Bool, zct R 15 = r ∧ (∀ p, p < 15 → w p = if R p = true then -1 else wb p) ∧ (∀ p, p < 15 → R p = true → ¬ wb p = -1) ∧ (∀ i j, i < 15 → j < 15 → R j = true → R i = false → (wb i < wb j ∨ (wb i = wb j ∧ j < i)))
theorem zct_f : ∀ n, zct (fun _ => false) n = 0 := by
  intro n
  induction n with
  | zero => rfl
  | succ n ih => rw [zct_s, ih]; rfl
theorem zRm_0 {wb w : Nat → Int32} (h : ∀ p, p < 15 → w p = wb p) : zRm wb w 0 :=
  ⟨fun _ => false, zct_f 15, fun p hp => (by show w p = if false = true then -1 else wb p; rw [if_neg (by decide)]; exact h p hp), fun _ _ (h : false = true) => (by cases h), fun _ _ _ _ (h : false = true) => (by cases h)⟩
/-- b is the first greatest among the first f -/
def zAm (w : Nat → Int32) (f b : Nat) : Prop := b < f ∧ (∀ j, j < f → ¬ w b < w j) ∧ ∀ j, j < b → w j < w b
theorem zAm_1 (w : Nat → Int32) : zAm w 1 0 := ⟨by decide, fun j hj => by rw [show j = 0 by omega]; exact Int32.lt_irrefl, fun j hj => absurd hj (Nat.not_lt_zero _)⟩
theorem zAm_y {w : Nat → Int32} {f b : Nat} (h : zAm w f b) (c : w b < w f) : zAm w (f + 1) f := by
  have key : ∀ j, j < f → w j < w f := fun j hj => by
    have h1 := h.2.1 j hj
    rw [fa_lt] at h1 c ⊢
    omega
  refine ⟨by omega, fun j hj => ?_, key⟩
  rcases Nat.lt_or_ge j f with h1 | h1
  · have := key j h1
    rw [fa_lt] at this ⊢
    omega
  · rw [show j = f by omega]; exact Int32.lt_irrefl
theorem zAm_n {w : Nat → Int32} {f b : Nat} (h : zAm w f b) (c : ¬ w b < w f) : zAm w (f + 1) b := by
  refine ⟨by have := h.1; omega, fun j hj => ?_, h.2.2⟩
  rcases Nat.lt_or_ge j f with h1 | h1
  · exact h.2.1 j h1
  · rw [show j = f by omega]; exact c
theorem zRm_s {wb w : Nat → Int32} {r n b : Nat} (h : zRm wb w r) (hge : ∀ p, p < 15 → wb p = -1 ∨ ∃ x, x ≤ 1000000000 ∧ wb p = nI x) (hn : zct (fun p => decide (¬ wb p = -1)) 15 = n) (hr : r < n) (hb : zAm w 15 b) :
    ¬ wb b = -1 ∧ zCB wb b (wb b) 15 = r ∧ zRm wb (upd w b (-1)) (r + 1) := by
  obtain ⟨R, h1, h2, h3, h4⟩ := h
  obtain ⟨hb1, hb2, hb3⟩ := hb
  have hm1 : (-1 : Int32).toInt = -1 := rfl
  have hex : ∃ p, p < 15 ∧ ¬ wb p = -1 ∧ R p = false := by
    apply Classical.byContradiction
    intro hne
    have : zct (fun p => decide (¬ wb p = -1)) 15 ≤ zct R 15 := zct_le 15 (fun j hj hp => by
      have hp := of_decide_eq_true hp
      cases hR : R j
      · exact absurd ⟨j, hj, hp, hR⟩ hne
      · rfl)
    omega
  obtain ⟨p0, hp0, hw0, hR0⟩ := hex
  have hwp : w p0 = wb p0 := by rw [h2 p0 hp0, if_neg (by rw [hR0]; decide)]
  have hwb : ¬ w b = -1 := by
    intro e
    have e1 := hb2 p0 hp0
    rw [e, hwp] at e1
    rcases hge p0 hp0 with e2 | ⟨x, hx, e2⟩
    · exact hw0 e2
    · rw [e2, fa_lt, nI_toInt (by omega)] at e1
      omega
  have hRb : R b = false := by
    cases hR : R b
    · rfl
    · exact absurd (by rw [h2 b hb1, if_pos hR]) hwb
  have hwe : w b = wb b := by rw [h2 b hb1, if_neg (by rw [hRb]; decide)]
  have hwj : ∀ j, j < 15 → R j = false → w j = wb j := fun j hj hR => by rw [h2 j hj, if_neg (by rw [hR]; decide)]
  refine ⟨fun e => hwb (hwe.trans e), ?_, ?_⟩
  · rw [zCB_ct, ← h1]
    refine zct_cg (fun j hj => ?_)
    cases hR : R j
    · refine decide_eq_false ?_
      rintro (e | ⟨e, e2⟩)
      · exact hb2 j hj (by rw [hwe, hwj j hj hR]; exact e)
      · have := hb3 j e2
        rw [hwe, hwj j hj hR, e] at this
        exact Int32.lt_irrefl this
    · refine decide_eq_true ?_
      rcases h4 b j hb1 hj hR hRb with e | ⟨e, e2⟩
      · exact Or.inl e
      · exact Or.inr ⟨e.symm, e2⟩
  · refine ⟨fun p => R p || p == b, ?_, fun p hp => ?_, fun p hp hR => ?_, fun i j hi hj hRj hRi => ?_⟩
    · rw [zct_one hRb, h1, if_pos hb1]
    · show upd w b (-1) p = if (R p || p == b) = true then -1 else wb p
      by_cases e : p = b
      · subst e
        rw [pk_us, if_pos (by simp)]
      · rw [pk_un (by omega), h2 p hp, show (p == b) = false from beq_eq_false_iff_ne.mpr e, Bool.or_false]
    · have hR : (R p || p == b) = true := hR
      by_cases e : p = b
      · subst e
        exact fun e2 => hwb (hwe.trans e2)
      · rw [show (p == b) = false from beq_eq_false_iff_ne.mpr e, Bool.or_false] at hR
        exact h3 p hp hR
    · have hRj0 : (R j || j == b) = true := hRj
      have hRi0 : (R i || i == b) = false := hRi
      clear hRj hRi
      have hib : ¬ i = b := by
        intro e
        rw [show (i == b) = true from beq_iff_eq.mpr e, Bool.or_true] at hRi0
        cases hRi0
      rw [show (i == b) = false from beq_eq_false_iff_ne.mpr hib, Bool.or_false] at hRi0
      by_cases e : j = b
      · subst e
        have e1 := hb2 i hi
        rw [hwe, hwj i hi hRi0] at e1
        rcases fa_three (wb i) (wb j) with e3 | e3 | e3
        · exact Or.inl e3
        · refine Or.inr ⟨e3, ?_⟩
          rcases Nat.lt_trichotomy i j with e4 | e4 | e4
          · have := hb3 i e4
            rw [hwe, hwj i hi hRi0, e3] at this
            exact absurd this Int32.lt_irrefl
          · exact absurd e4 hib
          · exact e4
        · exact absurd e3 e1
      · rw [show (j == b) = false from beq_eq_false_iff_ne.mpr e, Bool.or_false] at hRj0
        exact h4 i j hi hj hRj0 hRi0
theorem zRk_at {wb : Nat → Int32} {b r : Nat} (hb : b < 15) (h : ¬ wb b = -1) (hc : zCB wb b (wb b) 15 = r) : zRk wb (nI r) 0 15 = nI b := by
  have e : zRF wb (nI r) (b + 1) = nI b := by rw [zRF_s, if_pos ⟨h, by rw [hc]⟩]
  rw [zRF_eq (b + 1) (by omega), e, if_neg (nI_nm (by omega))]
theorem zWB_ct (k d own oth mm : Nat) : zct (fun p => decide (¬ zWB k d own oth mm p = -1)) 15 = zNum own oth mm 15 := by
  rw [zNum_ct]
  refine zct_cg (fun j _ => ?_)
  rcases zWB_ge k d own oth mm j with h | ⟨h, x, hx, h2⟩
  · rw [decide_eq_false (fun h9 => h9 h)]
    cases e : zcm own oth j mm
    · rfl
    · rw [zWB, if_pos e] at h
      exact absurd h (nI_nm (zBM_le (zV_le k d) own oth j mm))
  · rw [decide_eq_true (by rw [h2]; exact nI_nm hx), h]
/-- what the law holds in numbers: pieces, turn, marks, winner, throws, lost -/
def zQ (f : Nat → Int32) (k tn : Nat) (mk wn cnt lo lq : Int32) : Prop := f 0 = nI k ∧ f 1 = nI tn ∧ f 2 = mk ∧ f 3 = wn ∧ f 4 = cnt ∧ f (5 + tn) = lo ∧ f (6 - tn) = lq
theorem zmk_neg {mk : Int32} {mm : Nat} (h : zmk mk mm) (hm : mm ≤ 4) : mk < 0 ↔ mk = -1 := by
  rcases h with h | h
  · constructor
    · intro e
      rw [h] at e
      exact absurd ((nI_ltI (a := mm) (b := 0) (by omega) (by omega)).mp e) (Nat.not_lt_zero _)
    · intro e; rw [h] at e; exact absurd e (nI_nm (by omega))
  · rw [h.1]; exact ⟨fun _ => rfl, fun _ => by decide⟩
theorem zmk_nn {mk : Int32} {mm : Nat} (h : zmk mk mm) (hm : mm ≤ 4) (c : ¬ mk < 0) : mk = nI mm := zmk_ne h (fun e => c ((zmk_neg h hm).mpr e))
/-- the winner: none or a side -/
def zwn (wn : Int32) : Prop := wn = -1 ∨ ∃ j : Nat, j ≤ 1 ∧ wn = nI j
theorem zwn_lt {wn : Int32} (h : zwn wn) : wn < 0 ↔ wn = -1 := by
  rcases h with h | ⟨j, hj, h⟩
  · rw [h]; exact ⟨fun _ => rfl, fun _ => by decide⟩
  · constructor
    · intro e
      rw [h] at e
      exact absurd ((nI_ltI (a := j) (b := 0) (by omega) (by omega)).mp e) (Nat.not_lt_zero _)
    · intro e; rw [h] at e; exact absurd e (nI_nm (by omega))
section ZQ
variable {p : Program} {l : Launch} {e : Env} {R : Room} {s : State} {m : MethodId} {args : Array Value} {below : List Frame} {meth : Method} {c : Code} {H : Heap} {locs : List Loc} {cells slots : Nat} {Q : State → Prop}
variable {pc : Nat} {ls : Array Slot} {rest st0 : List Value} {D : va_G} {cl : List vw_C} {A0 : Nat → Prop} {ws : va_W} {H0 : Heap} {av : Array Value}
theorem zro_v (hr : va_Run p l e R s m args below meth c H locs cells slots 0 0 (F0 m pc ls st0) rest (va_Qv (fun (_ : Unit) => True) (fun _ _ => True) zF av) zF) (hP : va_P D cl ws H) (hS : va_S A0 H0 H locs)
    (kk : ∀ (H1 : Heap) (locs1 : List Loc), va_P D cl ws H1 → va_S A0 H0 H1 locs1 → W p l e R s m args below meth c H1 locs1 cells slots Q (F0 m (pc + 3) ls rest)) : W p l e R s m args below meth c H locs cells slots Q (F0 m pc ls st0) :=
  va_callv hr hS (fun _ _ h => h.elim) (fun _ h => h.elim) (fun u t H1 locs1 ht hvm hw hB hz1 hk1 hS1 => kk H1 locs1 (hP.kept (fun k q hk => hk1 q.1 (hP k q hk).lt (fun h => h))) hS1)
/-- a call whose answer is told by a fact -/
theorem zre_i {post : Int32 → Unit → Prop} (hr : va_Run p l e R s m args below meth c H locs cells slots 0 0 (F0 m pc ls st0) rest (va_Qi post (fun _ _ => True) zF av) zF) (hP : va_P D cl ws H) (hS : va_S A0 H0 H locs)
    (kk : ∀ (r : Int32) (H1 : Heap) (locs1 : List Loc), post r () → va_P D cl ws H1 → va_S A0 H0 H1 locs1 → W p l e R s m args below meth c H1 locs1 cells slots Q (F0 m (pc + 3) ls (.int r :: rest))) : W p l e R s m args below meth c H locs cells slots Q (F0 m pc ls st0) :=
  va_calli hr hS (fun _ _ h => h.elim) (fun _ h => h.elim) (fun r u t H1 locs1 ht hvm hw hB hz1 hk1 hS1 => kk r H1 locs1 hw (hP.kept (fun k q hk => hk1 q.1 (hP k q hk).lt (fun h => h))) hS1)
theorem zrw_d {σ : Type} {post : UInt64 → σ → Prop} {w1 : σ → va_W} {al : List Nat} (hr : va_Run p l e R s m args below meth c H locs cells slots 0 0 (F0 m pc ls st0) rest (va_Qd post (fun u t => va_P D cl (w1 u) t.heap) (zA al) av) (zA al)) (hP : va_P D cl ws H) (hDD : zD A0 (ws.map Prod.fst)) (hS : va_S A0 H0 H locs) (isC : List Nat) (hal : isC.map (fun i => (ws[i]?).map Prod.fst) = al.map some) (hw1 : ∀ u, (w1 u).map Prod.fst = al)
    (kk : ∀ (r : UInt64) (u : σ) (H1 : Heap) (locs1 : List Loc), post r u → va_P D cl (zset ws isC (w1 u)) H1 → va_S A0 H0 H1 locs1 → W p l e R s m args below meth c H1 locs1 cells slots Q (F0 m (pc + 3) ls (.double r :: rest))) : W p l e R s m args below meth c H locs cells slots Q (F0 m pc ls st0) :=
  va_calld hr hS (fun q _ h => zA_sub hDD hal q h) (zA_sub hDD hal) (fun r u t H1 locs1 ht hvm hw hB hz1 hk1 hS1 => kk r u H1 locs1 hw (zP_set isC hP hDD hal (hw1 u) hk1 (by rw [← ht]; exact hB)) hS1)
end ZQ
theorem zlo {x : Nat} (h : x < 2 ^ 31) : (0 : Int32) ≤ nI x := (nI_leI (a := 0) (b := x) (by omega) h).mpr (Nat.zero_le _)
theorem zlo1 {x : Nat} (h1 : 1 ≤ x) (h : x < 2 ^ 31) : (1 : Int32) ≤ nI x := (nI_leI (a := 1) (b := x) (by omega) h).mpr h1
theorem zhi {x n : Nat} (h : x ≤ n) (hn : n < 2 ^ 31) : nI x ≤ nI n := (nI_leI (by omega) hn).mpr h

/-! rows of NUMBERS.to-paste -/
theorem fa_lt (a b : Int32) : a < b ↔ a.toInt < b.toInt := Int32.lt_iff_toInt_lt
theorem fa_le (a b : Int32) : a ≤ b ↔ a.toInt ≤ b.toInt := Int32.le_iff_toInt_le
theorem fa_eq (a b : Int32) : a = b ↔ a.toInt = b.toInt := Int32.toInt_inj.symm
theorem fa_three (a b : Int32) : a < b ∨ a = b ∨ b < a := by
  rw [fa_lt, fa_lt, fa_eq]
  omega
/-! counts, ranks, the move of an index: the class's way and the reference's agree -/
def zct (P : Nat → Bool) : Nat → Nat
  | 0 => 0
  | j + 1 => zct P j + (if P j = true then 1 else 0)
theorem zct_s (P : Nat → Bool) (j : Nat) : zct P (j + 1) = zct P j + (if P j = true then 1 else 0) := rfl
theorem zct_le {P Q : Nat → Bool} : ∀ n, (∀ j, j < n → P j = true → Q j = true) → zct P n ≤ zct Q n := by
  intro n
  induction n with
  | zero => intro _; exact Nat.le_refl _
  | succ n ih =>
    intro h
    have h1 := ih (fun j hj => h j (by omega))
    rw [zct_s, zct_s]
    by_cases hp : P n = true
    · rw [if_pos hp, if_pos (h n (by omega) hp)]; omega
    · rw [if_neg hp]; omega
theorem zct_lt {P Q : Nat → Bool} {x : Nat} : ∀ n, (∀ j, j < n → P j = true → Q j = true) → x < n → Q x = true → P x = false → zct P n < zct Q n := by
  intro n
  induction n with
  | zero => intro _ h; omega
  | succ n ih =>
    intro h hx hq hp
    rw [zct_s, zct_s]
    rcases Nat.lt_or_ge x n with h1 | h1
    · have h2 := ih (fun j hj => h j (by omega)) h1 hq hp
      by_cases hp2 : P n = true
      · rw [if_pos hp2, if_pos (h n (by omega) hp2)]; omega
      · rw [if_neg hp2]; omega
    · have e : x = n := by omega
      subst e
      have h2 := zct_le x (fun j hj => h j (by omega))
      rw [if_pos hq, if_neg (by rw [hp]; decide)]
      omega
theorem zct_b (P : Nat → Bool) : ∀ n, zct P n ≤ n := by
  intro n
  induction n with
  | zero => exact Nat.le_refl _
  | succ n ih => rw [zct_s]; split <;> omega
theorem zCB_ct (wb : Nat → Int32) (pl : Nat) (w : Int32) : ∀ j, zCB wb pl w j = zct (fun j => decide (w < wb j ∨ (wb j = w ∧ j < pl))) j := by
  intro j
  induction j with
  | zero => rfl
  | succ j ih => rw [zCB_s, zct_s, ih]; simp only [decide_eq_true_eq]
theorem zNum_ct (own oth m : Nat) : ∀ j, zNum own oth m j = zct (fun j => zcm own oth j m) j := by
  intro j
  induction j with
  | zero => rfl
  | succ j ih => rw [zNum_s, zct_s, ih]
theorem zNum_0 (own oth : Nat) : ∀ j, zNum own oth 0 j = 0 := by
  intro j
  induction j with
  | zero => rfl
  | succ j ih => rw [zNum_s, ih, if_neg (by rw [zcm_0]; decide)]
theorem zNum_mono (own oth m : Nat) {i : Nat} : ∀ j, i < j → zcm own oth i m = true → zNum own oth m i < zNum own oth m j := by
  intro j
  induction j with
  | zero => intro h; omega
  | succ j ih =>
    intro h hc
    rw [zNum_s]
    rcases Nat.lt_or_ge i j with h1 | h1
    · have := ih h1 hc; omega
    · rw [show j = i by omega, if_pos hc]; omega
theorem zHas_num (own oth m : Nat) : ∀ j, zHas own oth m j = true ↔ zNum own oth m j ≠ 0 := by
  intro j
  induction j with
  | zero => exact ⟨fun h => (by cases h), fun h => absurd rfl h⟩
  | succ j ih =>
    rw [zHas_s, zNum_s, Bool.or_eq_true, ih]
    by_cases h : zcm own oth j m = true
    · rw [if_pos h]; simp [h]
    · rw [if_neg h]; simp [h]
/-- the last move below i ahead of which idx others are -/
def zMF (own oth mm : Nat) (idx : Int32) : Nat → Int32
  | 0 => -1
  | i + 1 => if zcm own oth i mm = true ∧ nI (zNum own oth mm i) = idx then nI i else zMF own oth mm idx i
theorem zMF_s (own oth mm : Nat) (idx : Int32) (i : Nat) : zMF own oth mm idx (i + 1) = if zcm own oth i mm = true ∧ nI (zNum own oth mm i) = idx then nI i else zMF own oth mm idx i := rfl
theorem zMF_no {own oth mm : Nat} {idx : Int32} : ∀ i, (∀ j, j < i → ¬ (zcm own oth j mm = true ∧ nI (zNum own oth mm j) = idx)) → zMF own oth mm idx i = -1 := by
  intro i
  induction i with
  | zero => intro _; rfl
  | succ i ih => intro h; rw [zMF_s, if_neg (h i (by omega))]; exact ih (fun j hj => h j (by omega))
theorem zMF_eq {own oth mm : Nat} {idx : Int32} : ∀ i, i ≤ 15 → zMA own oth mm idx 0 15 = if zMF own oth mm idx i = -1 then zMA own oth mm idx i (15 - i) else zMF own oth mm idx i := by
  intro i
  induction i with
  | zero => intro _; rfl
  | succ i ih =>
    intro hi
    rw [ih (by omega), zMF_s]
    by_cases h : zcm own oth i mm = true ∧ nI (zNum own oth mm i) = idx
    · have h1 : zMF own oth mm idx i = -1 := zMF_no i (fun j hj hm => by
        have h2 := zNum_mono own oth mm i hj hm.1
        have h3 := zNum_le own oth mm i
        have h4 := (nI_eq (by omega) (by omega)).mp (hm.2.trans h.2.symm)
        omega)
      rw [if_pos h, if_pos h1, if_neg (nI_nm (by omega)), show 15 - i = (15 - (i + 1)) + 1 by omega, zMA_s, if_pos h]
    · rw [if_neg h]
      by_cases h1 : zMF own oth mm idx i = -1
      · rw [if_pos h1, if_pos h1, show 15 - i = (15 - (i + 1)) + 1 by omega, zMA_s, if_neg h]
      · rw [if_neg h1, if_neg h1]
theorem zMF_15 (own oth mm : Nat) (idx : Int32) : zMF own oth mm idx 15 = zMA own oth mm idx 0 15 := by
  rw [zMF_eq 15 (by omega)]
  split
  · rename_i h; rw [h]; rfl
  · rfl
theorem zMA_neg {own oth mm : Nat} {idx : Int32} (h : idx < 0) : zMA own oth mm idx 0 15 = -1 := by
  rw [← zMF_15]
  refine zMF_no 15 (fun j hj hm => ?_)
  have h3 := zNum_le own oth mm j
  rw [← hm.2] at h
  have := (nI_ltI (a := zNum own oth mm j) (b := 0) (by omega) (by omega)).mp h
  omega
theorem zMA_0 {own oth : Nat} {idx : Int32} : zMA own oth 0 idx 0 15 = -1 := by
  rw [← zMF_15]
  exact zMF_no 15 (fun j _ hm => by rw [zcm_0] at hm; cases hm.1)
/-- the last place below i of this rank -/
def zRF (wb : Nat → Int32) (rank : Int32) : Nat → Int32
  | 0 => -1
  | i + 1 => if ¬ wb i = -1 ∧ nI (zCB wb i (wb i) 15) = rank then nI i else zRF wb rank i
theorem zRF_s (wb : Nat → Int32) (rank : Int32) (i : Nat) : zRF wb rank (i + 1) = if ¬ wb i = -1 ∧ nI (zCB wb i (wb i) 15) = rank then nI i else zRF wb rank i := rfl
theorem zRF_no {wb : Nat → Int32} {rank : Int32} : ∀ i, (∀ j, j < i → ¬ (¬ wb j = -1 ∧ nI (zCB wb j (wb j) 15) = rank)) → zRF wb rank i = -1 := by
  intro i
  induction i with
  | zero => intro _; rfl
  | succ i ih => intro h; rw [zRF_s, if_neg (h i (by omega))]; exact ih (fun j hj => h j (by omega))
theorem zCB_le (wb : Nat → Int32) (pl : Nat) (w : Int32) (j : Nat) : zCB wb pl w j ≤ j := by rw [zCB_ct]; exact zct_b _ _
theorem zCB_ne {wb : Nat → Int32} {a b : Nat} (ha : a < 15) (hb : b < 15) (hab : a ≠ b) : zCB wb a (wb a) 15 ≠ zCB wb b (wb b) 15 := by
  have key : ∀ x y : Nat, x < 15 → y < 15 → (wb y < wb x ∨ (wb x = wb y ∧ x < y)) → zCB wb x (wb x) 15 < zCB wb y (wb y) 15 := by
    intro x y hx hy hxy
    rw [zCB_ct, zCB_ct]
    refine zct_lt (x := x) 15 (fun j _ hj => ?_) hx (decide_eq_true hxy) (decide_eq_false ?_)
    · have hj := of_decide_eq_true hj
      refine decide_eq_true ?_
      rcases hj with h1 | ⟨h1, h2⟩
      · rcases hxy with h3 | ⟨h3, h4⟩
        · exact Or.inl (Int32.lt_trans h3 h1)
        · exact Or.inl (by rw [← h3]; exact h1)
      · rcases hxy with h3 | ⟨h3, h4⟩
        · exact Or.inl (by rw [h1]; exact h3)
        · exact Or.inr ⟨h1.trans h3, by omega⟩
    · rintro (h1 | ⟨-, h1⟩)
      · exact Int32.lt_irrefl h1
      · omega
  rcases fa_three (wb a) (wb b) with h | h | h
  · have := key b a hb ha (Or.inl h); omega
  · rcases Nat.lt_or_ge a b with h2 | h2
    · have := key a b ha hb (Or.inr ⟨h, h2⟩); omega
    · have := key b a hb ha (Or.inr ⟨h.symm, by omega⟩); omega
  · have := key a b ha hb (Or.inl h); omega
theorem zRF_eq {wb : Nat → Int32} {rank : Int32} : ∀ i, i ≤ 15 → zRk wb rank 0 15 = if zRF wb rank i = -1 then zRk wb rank i (15 - i) else zRF wb rank i := by
  intro i
  induction i with
  | zero => intro _; rfl
  | succ i ih =>
    intro hi
    rw [ih (by omega), zRF_s]
    by_cases h : ¬ wb i = -1 ∧ nI (zCB wb i (wb i) 15) = rank
    · have h1 : zRF wb rank i = -1 := zRF_no i (fun j hj hm => by
        have h2 := zCB_le wb i (wb i) 15
        have h3 := zCB_le wb j (wb j) 15
        have h4 := (nI_eq (by omega) (by omega)).mp (hm.2.trans h.2.symm)
        exact zCB_ne (by omega) (by omega) (by omega) h4)
      rw [if_pos h, if_pos h1, if_neg (nI_nm (by omega)), show 15 - i = (15 - (i + 1)) + 1 by omega, zRk_s, if_pos h]
    · rw [if_neg h]
      by_cases h1 : zRF wb rank i = -1
      · rw [if_pos h1, if_pos h1, show 15 - i = (15 - (i + 1)) + 1 by omega, zRk_s, if_neg h]
      · rw [if_neg h1, if_neg h1]
theorem zRF_15 (wb : Nat → Int32) (rank : Int32) : zRF wb rank 15 = zRk wb rank 0 15 := by
  rw [zRF_eq 15 (by omega)]
  split
  · rename_i h; rw [h]; rfl
  · rfl
theorem zWB_ge (k d own oth mm j : Nat) : zWB k d own oth mm j = -1 ∨ (zcm own oth j mm = true ∧ ∃ x, x ≤ 1000000000 ∧ zWB k d own oth mm j = nI x) := by
  by_cases h : zcm own oth j mm = true
  · exact Or.inr ⟨h, _, zBM_le (zV_le k d) own oth j mm, if_pos h⟩
  · exact Or.inl (if_neg h)
theorem zWB_rk {k d own oth mm p : Nat} (hp : p < 15) (h : ¬ zWB k d own oth mm p = -1) : zCB (zWB k d own oth mm) p (zWB k d own oth mm p) 15 < zNum own oth mm 15 := by
  rw [zCB_ct, zNum_ct]
  rcases zWB_ge k d own oth mm p with h1 | ⟨h1, x, hx, h2⟩
  · exact absurd h1 h
  · refine zct_lt (x := p) 15 (fun j _ hj => ?_) hp h1 (decide_eq_false ?_)
    · have hj := of_decide_eq_true hj
      rcases zWB_ge k d own oth mm j with h3 | ⟨h3, -⟩
      · exfalso
        rw [h3, h2] at hj
        rcases hj with h4 | ⟨h4, -⟩
        · rw [Int32.lt_iff_toInt_lt, nI_toInt (by omega)] at h4
          have : (-1 : Int32).toInt = -1 := rfl
          omega
        · exact nI_nm hx h4.symm
      · exact h3
    · rintro (h3 | ⟨-, h3⟩)
      · exact Int32.lt_irrefl h3
      · omega
theorem zRk_out {k d own oth mm : Nat} {rank : Int32} (h : ¬ rank < nI (zNum own oth mm 15)) : zRk (zWB k d own oth mm) rank 0 15 = -1 := by
  rw [← zRF_15]
  refine zRF_no 15 (fun j hj hm => h ?_)
  have h1 := zWB_rk hj hm.1
  have h2 := zNum_le own oth mm 15
  rw [← hm.2]
  exact (nI_ltI (by omega) (by omega)).mpr h1
/-- the reference's count of what ranks ahead -/
def zCA (wb : Nat → Int32) (fr : Nat) : Nat → Nat
  | 0 => 0
  | j + 1 => zCA wb fr j + (if ¬ wb j = -1 ∧ (wb fr < wb j ∨ (wb j = wb fr ∧ j < fr)) then 1 else 0)
theorem zCA_s (wb : Nat → Int32) (fr j : Nat) : zCA wb fr (j + 1) = zCA wb fr j + (if ¬ wb j = -1 ∧ (wb fr < wb j ∨ (wb j = wb fr ∧ j < fr)) then 1 else 0) := rfl
theorem zCA_eq {k d own oth mm fr : Nat} (h : ¬ zWB k d own oth mm fr = -1) : ∀ j, zCA (zWB k d own oth mm) fr j = zCB (zWB k d own oth mm) fr (zWB k d own oth mm fr) j := by
  intro j
  induction j with
  | zero => rfl
  | succ j ih =>
    rw [zCA_s, zCB_s, ih]
    congr 1
    by_cases h1 : zWB k d own oth mm fr < zWB k d own oth mm j ∨ (zWB k d own oth mm j = zWB k d own oth mm fr ∧ j < fr)
    · have hn : ¬ zWB k d own oth mm j = -1 := by
        intro h2
        rcases zWB_ge k d own oth mm fr with h3 | ⟨-, x, hx, h3⟩
        · exact h h3
        · rw [h2, h3] at h1
          rcases h1 with h4 | ⟨h4, -⟩
          · rw [Int32.lt_iff_toInt_lt, nI_toInt (by omega)] at h4
            have : (-1 : Int32).toInt = -1 := rfl
            omega
          · exact nI_nm hx h4.symm
      rw [if_pos h1, if_pos ⟨hn, h1⟩]
    · rw [if_neg h1, if_neg (fun h2 => h1 h2.2)]
theorem zCA_congr {wa wb : Nat → Int32} (h : ∀ j, j < 15 → wa j = wb j) {fr : Nat} (hf : fr < 15) : ∀ j, j ≤ 15 → zCA wa fr j = zCA wb fr j := by
  intro j
  induction j with
  | zero => intro _; rfl
  | succ j ih => intro hj; rw [zCA_s, zCA_s, ih (by omega), h j (by omega), h fr hf]

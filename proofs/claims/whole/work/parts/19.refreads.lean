/-! the reference: rows of counts, its reads -/
/-- a half of a row holds the digits of n -/
def zHf (F : Nat → Int32) (b sd n : Nat) : Prop := ∀ p, p < 16 → F (b + 16 * sd + p) = nI (dg n p)
def zRow (F : Nat → Int32) (b sd own oth : Nat) : Prop := zHf F b sd own ∧ zHf F b (1 - sd) oth
theorem zRow.sw {F : Nat → Int32} {b sd own oth : Nat} (hs : sd ≤ 1) (h : zRow F b sd own oth) : zRow F b (1 - sd) oth own := ⟨h.2, by rw [show 1 - (1 - sd) = sd by omega]; exact h.1⟩
theorem zin_nat {lo p hi : Nat} (h1 : lo < 2 ^ 31) (h2 : p < 2 ^ 31) (h3 : hi < 2 ^ 31) : (decide (nI lo ≤ nI p) && decide (nI p ≤ nI hi)) = (decide (lo ≤ p) && decide (p ≤ hi)) := by
  congr 1
  · exact decide_eq_decide.mpr (nI_leI h1 h2)
  · exact decide_eq_decide.mpr (nI_leI h2 h3)
theorem zcm_no1 {own oth fr mm : Nat} (h : mm = 0 ∨ 15 < fr + mm ∨ dg own fr = 0) : zcm own oth fr mm = false := by
  cases e : zcm own oth fr mm
  · rfl
  · exfalso; have := zcm_spec e; omega
theorem zcm_15 {own oth fr mm : Nat} (h0 : 0 < mm) (h1 : 0 < dg own fr) (h2 : fr + mm = 15) : zcm own oth fr mm = true := by
  rw [zcm, decide_eq_true h0, decide_eq_true h1, zcen, if_pos (by omega), h2]; rfl
theorem zcm_own {own oth fr mm : Nat} (h2 : fr + mm < 15) (h3 : 0 < dg own (fr + mm)) : zcm own oth fr mm = false := by
  rw [zcm, zcen, if_neg (by omega), decide_eq_true h3]; simp
theorem zcm_n8 {own oth fr mm : Nat} (h0 : 0 < mm) (h1 : 0 < dg own fr) (h2 : fr + mm < 15) (h3 : dg own (fr + mm) = 0) (h4 : ¬ fr + mm = 8) : zcm own oth fr mm = true := by
  rw [zcm, zcen, if_neg (by omega), decide_eq_true h0, decide_eq_true h1, decide_eq_false (show ¬ 0 < dg own (fr + mm) by omega), show (fr + mm == 8) = false from beq_eq_false_iff_ne.mpr h4]; simp
theorem zcm_8 {own oth fr mm : Nat} (h0 : 0 < mm) (h1 : 0 < dg own fr) (h3 : dg own (fr + mm) = 0) (h4 : fr + mm = 8) : zcm own oth fr mm = decide (dg oth 8 = 0) := by
  rw [zcm, zcen, if_neg (by omega), decide_eq_true h0, decide_eq_true h1, decide_eq_false (show ¬ 0 < dg own (fr + mm) by omega), h4]
  by_cases h5 : dg oth 8 = 0
  · rw [decide_eq_true h5, h5]; rfl
  · rw [decide_eq_false h5, decide_eq_true (show 0 < dg oth 8 by omega)]; rfl
/-- the last place below i that holds a piece, or none -/
def zls (n : Nat) : Nat → Int32
  | 0 => -1
  | i + 1 => if 0 < dg n i then nI i else zls n i
theorem zls_s (n i : Nat) : zls n (i + 1) = if 0 < dg n i then nI i else zls n i := rfl
theorem dsum_one (n : Nat) : ∀ j, dsum n j = 1 → ∃ q, q < j ∧ dg n q = 1 ∧ ∀ x, x < j → x ≠ q → dg n x = 0 := by
  intro j
  induction j with
  | zero => intro h; cases h
  | succ j ih =>
    intro h
    have h0 : dsum n j + dg n j = 1 := h
    by_cases h1 : dsum n j = 1
    · obtain ⟨q, h2, h3, h4⟩ := ih h1
      refine ⟨q, by omega, h3, fun x hx hn => ?_⟩
      rcases Nat.lt_or_ge x j with h5 | h5
      · exact h4 x h5 hn
      · rw [show x = j by omega]; omega
    · refine ⟨j, by omega, by omega, fun x hx hn => ?_⟩
      have := dsum_mono n j x (by omega)
      omega
theorem zls_q {n q : Nat} (hq : dg n q = 1) : ∀ i, q < i → (∀ x, x < i → x ≠ q → dg n x = 0) → zls n i = nI q := by
  intro i
  induction i with
  | zero => intro h; omega
  | succ i ih =>
    intro h h0
    rw [zls_s]
    rcases Nat.lt_or_ge q i with h1 | h1
    · rw [if_neg (by rw [h0 i (by omega) (by omega)]; omega)]
      exact ih h1 (fun x hx => h0 x (by omega))
    · have e : i = q := by omega
      subst e
      rw [if_pos (by omega)]
theorem zfs_q {n q : Nat} (hq : dg n q = 1) : ∀ j p, p ≤ q → q < p + j → (∀ x, x < q → dg n x = 0) → zfs n p j = q := by
  intro j
  induction j with
  | zero => intro p h1 h2; omega
  | succ j ih =>
    intro p h1 h2 h0
    rw [zfs_s]
    by_cases h3 : p = q
    · subst h3
      rw [if_neg (by omega)]
    · rw [if_pos (h0 p (by omega))]
      exact ih (p + 1) (by omega) (by omega) h0
theorem zls_fs {k n : Nat} (h : zok k n) (h1 : 1 ≤ k) (h2 : dg n 15 = k - 1) : zls n 15 = nI (zfs n 0 15) := by
  have h3 : dsum n 15 + dg n 15 = k := h.2.2
  obtain ⟨q, h4, h5, h6⟩ := dsum_one n 15 (by omega)
  rw [zls_q h5 15 h4 h6, zfs_q h5 15 0 (Nat.zero_le _) (by omega) (fun x hx => h6 x (by omega) (by omega))]
/-- the only place of a piece that isn't home, or none -/
def zOne (k n : Nat) : Int32 := if dg n 15 = k - 1 then nI (zfs n 0 15) else -1
def zFt (r : Nat) (ff : Nat → Int32) : Prop := ∀ a b, a < 15 → b < 15 → ff (15 * a + b) = nI (zE r a b)
theorem zOne_c {k n : Nat} (c : ¬ zOne k n = -1) : dg n 15 = k - 1 ∧ zOne k n = nI (zfs n 0 15) := by
  by_cases h : dg n 15 = k - 1
  · exact ⟨h, if_pos h⟩
  · exact absurd (if_neg h) c
theorem zOne_n {k n : Nat} (h1 : zok k n) (h0 : 1 ≤ k) (c : zOne k n = -1) : ¬ dg n 15 = k - 1 := by
  intro h
  rw [zOne, if_pos h] at c
  have h2 := zfs_lt h1 h0 h
  have h3 : (nI (zfs n 0 15)).toInt = -1 := by rw [c]; rfl
  rw [nI_toInt (by omega)] at h3
  omega
set_option maxHeartbeats 4000000 in
set_option maxRecDepth 100000 in
theorem c_X6_isShared (l : Launch) (pl : Nat) (hp : pl < 1000)  : Met l yX6_isShared wsX6_isShared ({ frames := 1, cells := 0, slots := 0, locals := 22 }) (va_Pc [.int (nI pl)] (fun _ => True)) (va_Qi (fun (r : Int32) (_ : Unit) => r = bI (zshr pl)) (fun _ _ => True) zF) 0 0 zF := by
  refine Met.ofW (cc := cX6_isShared) (maxL := 1) (ret := (some .boolean)) (by decide) rfl ?_
  intro p e s m args below meth c s₁ B hml hv
  obtain ⟨rfl, -⟩ := hv
  have hx := B.exec
  have hb := B.bytes
  have hr := B.returns
  have hts := atoms_spec (ws := wsX6_isShared) B.pre
  have hown : s.vm.findClass RX6 = some m.cls := findClass_of_methodNamed B.named
  have hlocks := B.notSynchronized
  have hl := lv_entry ([.int (nI pl)]) (n := 1) (Nat.le_of_ble_eq_true rfl)
  rw [lg_entry_eq]
  generalize (lg_sl ([.int (nI pl)]) ++ List.replicate (1 - (lg_sl ([.int (nI pl)])).length) Slot.unset).toArray = ls at hl ⊢
  have hl : lv_has ls 1 [(0, .int (nI pl))] := hl
  have hP : va_P zG0 [] [] s.heap := fun k q h => by simp at h
  have hS : va_S zF s.heap s.heap [] := va_S.rf
  refine lv_iload_n hx hb dX6_isShared_0 rfl (lv_at hl 0 rfl) ?_
  refine lv_iconst (v := 5) hx hb dX6_isShared_1 (by decide) ?_
  refine lv_bipush (v := 12) hx hb dX6_isShared_2 (by decide) ?_
  refine zro_i (va_runS (As := [.int (nI pl), .int 5, .int 12]) (rest := []) ⟨hx, hb, hml, hown, hts⟩ (c_X6_in l (nI pl) 5 12) (va_cwS 3 hts gX6_isShared_X6_in rfl rfl rfl (by decide +kernel) ⟨Nat.le_of_ble_eq_true rfl, Nat.le_of_ble_eq_true rfl⟩) zPu rfl rfl hl.1 rfl (lv_room (Nat.le_of_ble_eq_true rfl)) dX6_isShared_4 ⟨Nat.zero_le _, Nat.zero_le _⟩) hP hS (fun H locs hP hS => ?_)
  exact W.zret (v := bI (decide (5 ≤ (nI pl)) && decide ((nI pl) ≤ 12))) hx hb hr (bI_nar _) (fun t ht hW => ⟨⟨_, (), rfl, (congrArg bI (zin_nat (lo := 5) (p := pl) (hi := 12) (by omega) (by omega) (by omega))), trivial⟩, hS.F ht⟩) hS.2.2 dX6_isShared_7

set_option maxHeartbeats 4000000 in
set_option maxRecDepth 100000 in
theorem c_X6_isRosette (l : Launch) (pl : Nat) (hp : pl < 1000)  : Met l yX6_isRosette wsX6_isRosette ({ frames := 0, cells := 0, slots := 0, locals := 0 }) (va_Pc [.int (nI pl)] (fun _ => True)) (va_Qi (fun (r : Int32) (_ : Unit) => r = bI (zros pl)) (fun _ _ => True) zF) 0 0 zF := by
  refine Met.ofW (cc := cX6_isRosette) (maxL := 1) (ret := (some .boolean)) (by decide) rfl ?_
  intro p e s m args below meth c s₁ B hml hv
  obtain ⟨rfl, -⟩ := hv
  have hx := B.exec
  have hb := B.bytes
  have hr := B.returns
  have hts := atoms_spec (ws := wsX6_isRosette) B.pre
  have hown : s.vm.findClass RX6 = some m.cls := findClass_of_methodNamed B.named
  have hlocks := B.notSynchronized
  have hl := lv_entry ([.int (nI pl)]) (n := 1) (Nat.le_of_ble_eq_true rfl)
  rw [lg_entry_eq]
  generalize (lg_sl ([.int (nI pl)]) ++ List.replicate (1 - (lg_sl ([.int (nI pl)])).length) Slot.unset).toArray = ls at hl ⊢
  have hl : lv_has ls 1 [(0, .int (nI pl))] := hl
  have hP : va_P zG0 [] [] s.heap := fun k q h => by simp at h
  have hS : va_S zF s.heap s.heap [] := va_S.rf
  refine lv_iload_n hx hb dX6_isRosette_0 rfl (lv_at hl 0 rfl) ?_
  refine lv_iconst (v := 4) hx hb dX6_isRosette_1 (by decide) ?_
  refine lv_icmp_eq (tgt := 17) hx hb dX6_isRosette_2 (by decide) (fun c_2 => ?_) (fun c_2 => ?_)
  · skip
    have c_2 : pl = 4 := (nI_eq (a := pl) (b := 4) (by omega) (by omega)).mp c_2
    refine lv_iconst (v := 1) hx hb dX6_isRosette_17 (by decide) ?_
    refine lv_goto (tgt := 22) hx hb dX6_isRosette_18 (by decide) ?_
    exact W.zret (v := 1) hx hb hr rfl (fun t ht hW => ⟨⟨_, (), rfl, (bI_t (by simp [zros, c_2] <;> omega)), trivial⟩, hS.F ht⟩) hS.2.2 dX6_isRosette_22
  · skip
    have c_2 : ¬ pl = 4 := fun h9 => c_2 ((nI_eq (a := pl) (b := 4) (by omega) (by omega)).mpr h9)
    refine lv_iload_n hx hb dX6_isRosette_5 rfl (lv_at hl 0 rfl) ?_
    refine lv_bipush (v := 8) hx hb dX6_isRosette_6 (by decide) ?_
    refine lv_icmp_eq (tgt := 17) hx hb dX6_isRosette_8 (by decide) (fun c_8 => ?_) (fun c_8 => ?_)
    · skip
      have c_8 : pl = 8 := (nI_eq (a := pl) (b := 8) (by omega) (by omega)).mp c_8
      refine lv_iconst (v := 1) hx hb dX6_isRosette_17 (by decide) ?_
      refine lv_goto (tgt := 22) hx hb dX6_isRosette_18 (by decide) ?_
      exact W.zret (v := 1) hx hb hr rfl (fun t ht hW => ⟨⟨_, (), rfl, (bI_t (by simp [zros, c_2, c_8] <;> omega)), trivial⟩, hS.F ht⟩) hS.2.2 dX6_isRosette_22
    · skip
      have c_8 : ¬ pl = 8 := fun h9 => c_8 ((nI_eq (a := pl) (b := 8) (by omega) (by omega)).mpr h9)
      refine lv_iload_n hx hb dX6_isRosette_11 rfl (lv_at hl 0 rfl) ?_
      refine lv_bipush (v := 14) hx hb dX6_isRosette_12 (by decide) ?_
      refine lv_icmp_ne (tgt := 21) hx hb dX6_isRosette_14 (by decide) (fun c_14 => ?_) (fun c_14 => ?_)
      · skip
        have c_14 : ¬ pl = 14 := fun h9 => c_14 ((nI_eq (a := pl) (b := 14) (by omega) (by omega)).mpr h9)
        refine lv_iconst (v := 0) hx hb dX6_isRosette_21 (by decide) ?_
        exact W.zret (v := 0) hx hb hr rfl (fun t ht hW => ⟨⟨_, (), rfl, (bI_f (by simp [zros, c_2, c_8, c_14] <;> omega)), trivial⟩, hS.F ht⟩) hS.2.2 dX6_isRosette_22
      · skip
        have c_14 : pl = 14 := (nI_eq (a := pl) (b := 14) (by omega) (by omega)).mp c_14
        refine lv_iconst (v := 1) hx hb dX6_isRosette_17 (by decide) ?_
        refine lv_goto (tgt := 22) hx hb dX6_isRosette_18 (by decide) ?_
        exact W.zret (v := 1) hx hb hr rfl (fun t ht hW => ⟨⟨_, (), rfl, (bI_t (by simp [zros, c_2, c_8, c_14] <;> omega)), trivial⟩, hS.F ht⟩) hS.2.2 dX6_isRosette_22

set_option maxHeartbeats 4000000 in
set_option maxRecDepth 100000 in
theorem c_X6_canMove (l : Launch) (dC : Nat → ClassId) (dI : Nat → Nat → Nat) (cyI cyJ : ClassId) (rx : Nat) (N9 : Nat) (hN : N9 < 1000) (F : Nat → Int32) (b sd own oth fr mm : Nat) (hb9 : b + 32 ≤ N9) (hsd : sd ≤ 1) (hr9 : zRow F b sd own oth) (hfr : fr ≤ 14) (hmm : mm ≤ 4) : Met l yX6_canMove wsX6_canMove ({ frames := 0, cells := 0, slots := 0, locals := 0 }) (zPc [.ref rx, .int (nI b), .int (nI sd), .int (nI fr), .int (nI mm)] (dC, dI) vwCl [(cyI, .int), (cyJ, .long)] [(rx, .inl (cyI, N9, .inl F))] (fun _ => True)) (va_Qi (fun (r : Int32) (_ : Unit) => r = bI (zcm own oth fr mm)) (fun _ _ => True) zF) 0 0 zF := by
  refine Met.ofW (cc := cX6_canMove) (maxL := 7) (ret := (some .boolean)) (by decide) rfl ?_
  intro p e s m args below meth c s₁ B hml hv
  obtain ⟨rfl, hP, hK, hX⟩ := hv
  have hx := B.exec
  have hb := B.bytes
  have hr := B.returns
  have hts := atoms_spec (ws := wsX6_canMove) B.pre
  have hown : s.vm.findClass RX6 = some m.cls := findClass_of_methodNamed B.named
  have hlocks := B.notSynchronized
  have hl := lv_entry ([.ref rx, .int (nI b), .int (nI sd), .int (nI fr), .int (nI mm)]) (n := 7) (Nat.le_of_ble_eq_true rfl)
  rw [lg_entry_eq]
  generalize (lg_sl ([.ref rx, .int (nI b), .int (nI sd), .int (nI fr), .int (nI mm)]) ++ List.replicate (7 - (lg_sl ([.ref rx, .int (nI b), .int (nI sd), .int (nI fr), .int (nI mm)])).length) Slot.unset).toArray = ls at hl ⊢
  have hl : lv_has ls 7 [(0, .ref rx), (1, .int (nI b)), (2, .int (nI sd)), (3, .int (nI fr)), (4, .int (nI mm))] := hl
  have hS : va_S zF s.heap s.heap [] := va_S.rf
  have hg0 := dg_lt own fr
  have hg1 := dg_lt own (fr + mm)
  have hg2 := dg_lt oth 8
  refine lv_iload_n hx hb dX6_canMove_0 rfl (lv_at hl 3 rfl) ?_
  refine lv_iload hx hb dX6_canMove_1 (lv_at hl 4 rfl) ?_
  refine lv_iadd hx hb dX6_canMove_3 ?_
  refine zz_i (y := nI (fr + mm)) (nI_add fr mm) ?_
  refine lv_istore (lv' := [(5, .int (nI (fr + mm))), (0, .ref rx), (1, .int (nI b)), (2, .int (nI sd)), (3, .int (nI fr)), (4, .int (nI mm))]) hx hb dX6_canMove_4 hl (by decide) rfl (fun ls hl => ?_)
  refine lv_iload hx hb dX6_canMove_6 (lv_at hl 5 rfl) ?_
  refine lv_if_eq (tgt := 31) hx hb dX6_canMove_8 (by decide) (fun c_8 => ?_) (fun c_8 => ?_)
  · skip
    have c_8 : mm = 0 := (nI_eq (a := mm) (b := 0) (by omega) (by omega)).mp c_8
    refine lv_iconst (v := 0) hx hb dX6_canMove_31 (by decide) ?_
    exact W.zret (v := 0) hx hb hr rfl (fun t ht hW => ⟨⟨_, (), rfl, (bI_f (zcm_no1 (Or.inl c_8))), trivial⟩, hS.F ht⟩) hS.2.2 dX6_canMove_32
  · skip
    have c_8 : ¬ mm = 0 := fun h9 => c_8 ((nI_eq (a := mm) (b := 0) (by omega) (by omega)).mpr h9)
    refine lv_iload hx hb dX6_canMove_11 (lv_at hl 0 rfl) ?_
    refine lv_bipush (v := 15) hx hb dX6_canMove_13 (by decide) ?_
    refine lv_icmp_gt (tgt := 31) hx hb dX6_canMove_15 (by decide) (fun c_15 => ?_) (fun c_15 => ?_)
    · skip
      have c_15 : 15 < (fr + mm) := (nI_ltI (a := 15) (b := fr + mm) (by omega) (by omega)).mp c_15
      refine lv_iconst (v := 0) hx hb dX6_canMove_31 (by decide) ?_
      exact W.zret (v := 0) hx hb hr rfl (fun t ht hW => ⟨⟨_, (), rfl, (bI_f (zcm_no1 (Or.inr (Or.inl c_15)))), trivial⟩, hS.F ht⟩) hS.2.2 dX6_canMove_32
    · skip
      have c_15 : ¬ 15 < (fr + mm) := fun h9 => c_15 ((nI_ltI (a := 15) (b := fr + mm) (by omega) (by omega)).mpr h9)
      refine lv_aload_n hx hb dX6_canMove_18 rfl (lv_at hl 1 rfl) ?_
      refine lv_iload_n hx hb dX6_canMove_19 rfl (lv_at hl 2 rfl) ?_
      refine lv_bipush (v := 16) hx hb dX6_canMove_20 (by decide) ?_
      refine lv_iload_n hx hb dX6_canMove_22 rfl (lv_at hl 3 rfl) ?_
      refine lv_imul hx hb dX6_canMove_23 ?_
      refine zz_i (y := nI (16 * sd)) (pk_mul 16 sd) ?_
      refine lv_iadd hx hb dX6_canMove_24 ?_
      refine zz_i (y := nI (b + 16 * sd)) (nI_add b (16 * sd)) ?_
      refine lv_iload_n hx hb dX6_canMove_25 rfl (lv_at hl 4 rfl) ?_
      refine lv_iadd hx hb dX6_canMove_26 ?_
      refine zz_i (y := nI (b + 16 * sd + fr)) (nI_add (b + 16 * sd) fr) ?_
      refine zi_iald hx hb hK hP 0 0 rfl rfl (j := b + 16 * sd + fr) rfl (by omega) (by omega) dX6_canMove_27 ?_
      refine zz_i (y := nI (dg own fr)) (hr9.1 fr (by omega)) ?_
      refine lv_if_ne (tgt := 33) hx hb dX6_canMove_28 (by decide) (fun c_28 => ?_) (fun c_28 => ?_)
      · skip
        have c_28 : ¬ (dg own fr) = 0 := fun h9 => c_28 ((nI_eq (a := dg own fr) (b := 0) (by omega) (by omega)).mpr h9)
        refine lv_iload hx hb dX6_canMove_33 (lv_at hl 0 rfl) ?_
        refine lv_bipush (v := 15) hx hb dX6_canMove_35 (by decide) ?_
        refine lv_icmp_ge (tgt := 58) hx hb dX6_canMove_37 (by decide) (fun c_37 => ?_) (fun c_37 => ?_)
        · skip
          have c_37 : 15 ≤ (fr + mm) := (nI_leI (a := 15) (b := fr + mm) (by omega) (by omega)).mp c_37
          refine lv_iconst (v := 0) hx hb dX6_canMove_58 (by decide) ?_
          refine lv_istore (lv' := [(6, .int 0), (5, .int (nI (fr + mm))), (0, .ref rx), (1, .int (nI b)), (2, .int (nI sd)), (3, .int (nI fr)), (4, .int (nI mm))]) hx hb dX6_canMove_59 hl (by decide) rfl (fun ls hl => ?_)
          refine lv_iload hx hb dX6_canMove_61 (lv_at hl 0 rfl) ?_
          refine lv_if_ne (tgt := 94) hx hb dX6_canMove_63 (by decide) (fun c9 => absurd c9 (by decide)) (fun _ => ?_)
          refine lv_iload hx hb dX6_canMove_66 (lv_at hl 1 rfl) ?_
          refine lv_bipush (v := 8) hx hb dX6_canMove_68 (by decide) ?_
          refine lv_icmp_ne (tgt := 90) hx hb dX6_canMove_70 (by decide) (fun c_70 => ?_) (fun c_70 => ?_)
          · skip
            have c_70 : ¬ (fr + mm) = 8 := fun h9 => c_70 ((nI_eq (a := fr + mm) (b := 8) (by omega) (by omega)).mpr h9)
            refine lv_iconst (v := 1) hx hb dX6_canMove_90 (by decide) ?_
            refine lv_goto (tgt := 95) hx hb dX6_canMove_91 (by decide) ?_
            exact W.zret (v := 1) hx hb hr rfl (fun t ht hW => ⟨⟨_, (), rfl, (bI_t (zcm_15 (by omega) (by omega) (by omega))), trivial⟩, hS.F ht⟩) hS.2.2 dX6_canMove_95
          · skip
            have c_70 : (fr + mm) = 8 := (nI_eq (a := fr + mm) (b := 8) (by omega) (by omega)).mp c_70
            refine lv_aload_n hx hb dX6_canMove_73 rfl (lv_at hl 2 rfl) ?_
            refine lv_iload_n hx hb dX6_canMove_74 rfl (lv_at hl 3 rfl) ?_
            refine lv_bipush (v := 16) hx hb dX6_canMove_75 (by decide) ?_
            refine lv_iadd hx hb dX6_canMove_77 ?_
            refine zz_i (y := nI (b + 16)) (nI_add b 16) ?_
            refine lv_bipush (v := 16) hx hb dX6_canMove_78 (by decide) ?_
            refine lv_iload_n hx hb dX6_canMove_80 rfl (lv_at hl 4 rfl) ?_
            refine lv_imul hx hb dX6_canMove_81 ?_
            refine zz_i (y := nI (16 * sd)) (pk_mul 16 sd) ?_
            refine lv_isub hx hb dX6_canMove_82 ?_
            refine zz_i (y := nI (b + 16 - (16 * sd))) (pk_sub (a := b + 16) (b := 16 * sd) (by omega)) ?_
            refine lv_bipush (v := 8) hx hb dX6_canMove_83 (by decide) ?_
            refine lv_iadd hx hb dX6_canMove_85 ?_
            refine zz_i (y := nI (b + 16 - (16 * sd) + 8)) (nI_add (b + 16 - (16 * sd)) 8) ?_
            refine zi_iald hx hb hK hP 0 0 rfl rfl (j := b + 16 - (16 * sd) + 8) rfl (by omega) (by omega) dX6_canMove_86 ?_
            refine zz_i (y := nI (dg oth 8)) (by rw [show b + 16 - 16 * sd + 8 = b + 16 * (1 - sd) + 8 by omega]; exact hr9.2 8 (by omega)) ?_
            refine lv_if_ne (tgt := 94) hx hb dX6_canMove_87 (by decide) (fun c_87 => ?_) (fun c_87 => ?_)
            · skip
              have c_87 : ¬ (dg oth 8) = 0 := fun h9 => c_87 ((nI_eq (a := dg oth 8) (b := 0) (by omega) (by omega)).mpr h9)
              refine lv_iconst (v := 0) hx hb dX6_canMove_94 (by decide) ?_
              exact W.zret (v := 0) hx hb hr rfl (fun t ht hW => ⟨⟨_, (), rfl, (bI_f (by rw [zcm_8 (by omega) (by omega) (by omega) c_70, decide_eq_false c_87])), trivial⟩, hS.F ht⟩) hS.2.2 dX6_canMove_95
            · skip
              have c_87 : (dg oth 8) = 0 := (nI_eq (a := dg oth 8) (b := 0) (by omega) (by omega)).mp c_87
              refine lv_iconst (v := 1) hx hb dX6_canMove_90 (by decide) ?_
              refine lv_goto (tgt := 95) hx hb dX6_canMove_91 (by decide) ?_
              exact W.zret (v := 1) hx hb hr rfl (fun t ht hW => ⟨⟨_, (), rfl, (bI_t (zcm_15 (by omega) (by omega) (by omega))), trivial⟩, hS.F ht⟩) hS.2.2 dX6_canMove_95
        · skip
          have c_37 : ¬ 15 ≤ (fr + mm) := fun h9 => c_37 ((nI_leI (a := 15) (b := fr + mm) (by omega) (by omega)).mpr h9)
          refine lv_aload_n hx hb dX6_canMove_40 rfl (lv_at hl 1 rfl) ?_
          refine lv_iload_n hx hb dX6_canMove_41 rfl (lv_at hl 2 rfl) ?_
          refine lv_bipush (v := 16) hx hb dX6_canMove_42 (by decide) ?_
          refine lv_iload_n hx hb dX6_canMove_44 rfl (lv_at hl 3 rfl) ?_
          refine lv_imul hx hb dX6_canMove_45 ?_
          refine zz_i (y := nI (16 * sd)) (pk_mul 16 sd) ?_
          refine lv_iadd hx hb dX6_canMove_46 ?_
          refine zz_i (y := nI (b + 16 * sd)) (nI_add b (16 * sd)) ?_
          refine lv_iload hx hb dX6_canMove_47 (lv_at hl 0 rfl) ?_
          refine lv_iadd hx hb dX6_canMove_49 ?_
          refine zz_i (y := nI (b + 16 * sd + (fr + mm))) (nI_add (b + 16 * sd) (fr + mm)) ?_
          refine zi_iald hx hb hK hP 0 0 rfl rfl (j := b + 16 * sd + (fr + mm)) rfl (by omega) (by omega) dX6_canMove_50 ?_
          refine zz_i (y := nI (dg own (fr + mm))) (hr9.1 (fr + mm) (by omega)) ?_
          refine lv_if_le (tgt := 58) hx hb dX6_canMove_51 (by decide) (fun c_51 => ?_) (fun c_51 => ?_)
          · skip
            have c_51 : (dg own (fr + mm)) ≤ 0 := (nI_leI (a := dg own (fr + mm)) (b := 0) (by omega) (by omega)).mp c_51
            refine lv_iconst (v := 0) hx hb dX6_canMove_58 (by decide) ?_
            refine lv_istore (lv' := [(6, .int 0), (5, .int (nI (fr + mm))), (0, .ref rx), (1, .int (nI b)), (2, .int (nI sd)), (3, .int (nI fr)), (4, .int (nI mm))]) hx hb dX6_canMove_59 hl (by decide) rfl (fun ls hl => ?_)
            refine lv_iload hx hb dX6_canMove_61 (lv_at hl 0 rfl) ?_
            refine lv_if_ne (tgt := 94) hx hb dX6_canMove_63 (by decide) (fun c9 => absurd c9 (by decide)) (fun _ => ?_)
            refine lv_iload hx hb dX6_canMove_66 (lv_at hl 1 rfl) ?_
            refine lv_bipush (v := 8) hx hb dX6_canMove_68 (by decide) ?_
            refine lv_icmp_ne (tgt := 90) hx hb dX6_canMove_70 (by decide) (fun c_70 => ?_) (fun c_70 => ?_)
            · skip
              have c_70 : ¬ (fr + mm) = 8 := fun h9 => c_70 ((nI_eq (a := fr + mm) (b := 8) (by omega) (by omega)).mpr h9)
              refine lv_iconst (v := 1) hx hb dX6_canMove_90 (by decide) ?_
              refine lv_goto (tgt := 95) hx hb dX6_canMove_91 (by decide) ?_
              exact W.zret (v := 1) hx hb hr rfl (fun t ht hW => ⟨⟨_, (), rfl, (bI_t (zcm_n8 (by omega) (by omega) (by omega) (by omega) c_70)), trivial⟩, hS.F ht⟩) hS.2.2 dX6_canMove_95
            · skip
              have c_70 : (fr + mm) = 8 := (nI_eq (a := fr + mm) (b := 8) (by omega) (by omega)).mp c_70
              refine lv_aload_n hx hb dX6_canMove_73 rfl (lv_at hl 2 rfl) ?_
              refine lv_iload_n hx hb dX6_canMove_74 rfl (lv_at hl 3 rfl) ?_
              refine lv_bipush (v := 16) hx hb dX6_canMove_75 (by decide) ?_
              refine lv_iadd hx hb dX6_canMove_77 ?_
              refine zz_i (y := nI (b + 16)) (nI_add b 16) ?_
              refine lv_bipush (v := 16) hx hb dX6_canMove_78 (by decide) ?_
              refine lv_iload_n hx hb dX6_canMove_80 rfl (lv_at hl 4 rfl) ?_
              refine lv_imul hx hb dX6_canMove_81 ?_
              refine zz_i (y := nI (16 * sd)) (pk_mul 16 sd) ?_
              refine lv_isub hx hb dX6_canMove_82 ?_
              refine zz_i (y := nI (b + 16 - (16 * sd))) (pk_sub (a := b + 16) (b := 16 * sd) (by omega)) ?_
              refine lv_bipush (v := 8) hx hb dX6_canMove_83 (by decide) ?_
              refine lv_iadd hx hb dX6_canMove_85 ?_
              refine zz_i (y := nI (b + 16 - (16 * sd) + 8)) (nI_add (b + 16 - (16 * sd)) 8) ?_
              refine zi_iald hx hb hK hP 0 0 rfl rfl (j := b + 16 - (16 * sd) + 8) rfl (by omega) (by omega) dX6_canMove_86 ?_
              refine zz_i (y := nI (dg oth 8)) (by rw [show b + 16 - 16 * sd + 8 = b + 16 * (1 - sd) + 8 by omega]; exact hr9.2 8 (by omega)) ?_
              refine lv_if_ne (tgt := 94) hx hb dX6_canMove_87 (by decide) (fun c_87 => ?_) (fun c_87 => ?_)
              · skip
                have c_87 : ¬ (dg oth 8) = 0 := fun h9 => c_87 ((nI_eq (a := dg oth 8) (b := 0) (by omega) (by omega)).mpr h9)
                refine lv_iconst (v := 0) hx hb dX6_canMove_94 (by decide) ?_
                exact W.zret (v := 0) hx hb hr rfl (fun t ht hW => ⟨⟨_, (), rfl, (bI_f (by rw [zcm_8 (by omega) (by omega) (by omega) c_70, decide_eq_false c_87])), trivial⟩, hS.F ht⟩) hS.2.2 dX6_canMove_95
              · skip
                have c_87 : (dg oth 8) = 0 := (nI_eq (a := dg oth 8) (b := 0) (by omega) (by omega)).mp c_87
                refine lv_iconst (v := 1) hx hb dX6_canMove_90 (by decide) ?_
                refine lv_goto (tgt := 95) hx hb dX6_canMove_91 (by decide) ?_
                exact W.zret (v := 1) hx hb hr rfl (fun t ht hW => ⟨⟨_, (), rfl, (bI_t (by rw [zcm_8 (by omega) (by omega) (by omega) c_70, decide_eq_true c_87])), trivial⟩, hS.F ht⟩) hS.2.2 dX6_canMove_95
          · skip
            have c_51 : ¬ (dg own (fr + mm)) ≤ 0 := fun h9 => c_51 ((nI_leI (a := dg own (fr + mm)) (b := 0) (by omega) (by omega)).mpr h9)
            refine lv_iconst (v := 1) hx hb dX6_canMove_54 (by decide) ?_
            refine lv_goto (tgt := 59) hx hb dX6_canMove_55 (by decide) ?_
            refine lv_istore (lv' := [(6, .int 1), (5, .int (nI (fr + mm))), (0, .ref rx), (1, .int (nI b)), (2, .int (nI sd)), (3, .int (nI fr)), (4, .int (nI mm))]) hx hb dX6_canMove_59 hl (by decide) rfl (fun ls hl => ?_)
            refine lv_iload hx hb dX6_canMove_61 (lv_at hl 0 rfl) ?_
            refine lv_if_ne (tgt := 94) hx hb dX6_canMove_63 (by decide) (fun _ => ?_) (fun c9 => absurd c9 (by decide))
            refine lv_iconst (v := 0) hx hb dX6_canMove_94 (by decide) ?_
            exact W.zret (v := 0) hx hb hr rfl (fun t ht hW => ⟨⟨_, (), rfl, (bI_f (zcm_own (by omega) (by omega))), trivial⟩, hS.F ht⟩) hS.2.2 dX6_canMove_95
      · skip
        have c_28 : (dg own fr) = 0 := (nI_eq (a := dg own fr) (b := 0) (by omega) (by omega)).mp c_28
        refine lv_iconst (v := 0) hx hb dX6_canMove_31 (by decide) ?_
        exact W.zret (v := 0) hx hb hr rfl (fun t ht hW => ⟨⟨_, (), rfl, (bI_f (zcm_no1 (Or.inr (Or.inr c_28)))), trivial⟩, hS.F ht⟩) hS.2.2 dX6_canMove_32

set_option maxHeartbeats 4000000 in
set_option maxRecDepth 100000 in
theorem c_X6_progressOf (l : Launch) (dC : Nat → ClassId) (dI : Nat → Nat → Nat) (cyI cyJ : ClassId) (bx rx N9 : Nat) (hN : N9 < 1000) (F : Nat → Int32) (b sd n : Nat) (hb9 : b + 32 ≤ N9) (hsd : sd ≤ 1) (hr9 : zHf F b sd n) : Met l yX6_progressOf wsX6_progressOf ({ frames := 0, cells := 0, slots := 0, locals := 0 }) (zPc [.ref bx, .ref rx, .int (nI b), .int (nI sd)] (dC, dI) vwCl [(cyI, .int), (cyJ, .long)] [(rx, .inl (cyI, N9, .inl F))] (fun _ => True)) (va_Qi (fun (r : Int32) (_ : Unit) => r = nI (psum n 16)) (fun _ _ => True) zF) 0 0 zF := by
  refine Met.ofW (cc := cX6_progressOf) (maxL := 6) (ret := (some .int)) (by decide) rfl ?_
  intro p e s m args below meth c s₁ B hml hv
  obtain ⟨rfl, hP, hK, hX⟩ := hv
  have hx := B.exec
  have hb := B.bytes
  have hr := B.returns
  have hts := atoms_spec (ws := wsX6_progressOf) B.pre
  have hown : s.vm.findClass RX6 = some m.cls := findClass_of_methodNamed B.named
  have hlocks := B.notSynchronized
  have hl := lv_entry ([.ref bx, .ref rx, .int (nI b), .int (nI sd)]) (n := 6) (Nat.le_of_ble_eq_true rfl)
  rw [lg_entry_eq]
  generalize (lg_sl ([.ref bx, .ref rx, .int (nI b), .int (nI sd)]) ++ List.replicate (6 - (lg_sl ([.ref bx, .ref rx, .int (nI b), .int (nI sd)])).length) Slot.unset).toArray = ls at hl ⊢
  have hl : lv_has ls 6 [(0, .ref bx), (1, .ref rx), (2, .int (nI b)), (3, .int (nI sd))] := hl
  have hS : va_S zF s.heap s.heap [] := va_S.rf
  generalize hQe : MQ below _ _ _ _ _ _ = Q
  refine lv_iconst (v := 0) hx hb dX6_progressOf_0 (by decide) ?_
  refine lv_istore (lv' := [(4, .int 0), (0, .ref bx), (1, .ref rx), (2, .int (nI b)), (3, .int (nI sd))]) hx hb dX6_progressOf_1 hl (by decide) rfl (fun ls hl => ?_)
  refine lv_iconst (v := 0) hx hb dX6_progressOf_3 (by decide) ?_
  refine lv_istore (lv' := [(5, .int 0), (4, .int 0), (0, .ref bx), (1, .ref rx), (2, .int (nI b)), (3, .int (nI sd))]) hx hb dX6_progressOf_4 hl (by decide) rfl (fun ls hl => ?_)
  have lp : ∀ (n9 : Nat) (i : Nat) (sv : Int32), i ≤ 16 → sv = nI (psum n i) → 16 - i < n9 → ∀ (H : Heap) (locs : List Loc), va_P (dC, dI) vwCl [(rx, .inl (cyI, N9, .inl F))] H → va_S zF s.heap H locs → ∀ ls : Array Slot, lv_has ls 6 [(5, .int (nI i)), (4, .int sv), (0, .ref bx), (1, .ref rx), (2, .int (nI b)), (3, .int (nI sd))] → W p l e (headSpec wsX6_progressOf ({ frames := 0, cells := 0, slots := 0, locals := 0 })).room s m ([.ref bx, .ref rx, .int (nI b), .int (nI sd)] : List Value).toArray below meth c H locs 0 0 Q (F0 m 6 ls []) := by
    intro n9
    induction n9 with
    | zero => intro i sv hi2 hsv hm9; exact absurd hm9 (Nat.not_lt_zero _)
    | succ n9 ih6 =>
      intro i sv hi2 hsv hm9 H locs hP hS ls hl
      refine lv_iload hx hb dX6_progressOf_6 (lv_at hl 0 rfl) ?_
      refine lv_bipush (v := 15) hx hb dX6_progressOf_8 (by decide) ?_
      refine lv_icmp_gt (tgt := 38) hx hb dX6_progressOf_10 (by decide) (fun c_10 => ?_) (fun c_10 => ?_)
      · skip
        have c_10 : 15 < i := (nI_ltI (a := 15) (b := i) (by omega) (by omega)).mp c_10
        refine lv_iload hx hb dX6_progressOf_38 (lv_at hl 1 rfl) ?_
        subst hQe
        exact W.iret (v := sv) hx hb hr (fun t ht hW => ⟨⟨_, (), rfl, (by rw [hsv, show i = 16 by omega]), trivial⟩, hS.F ht⟩) hS.2.2 dX6_progressOf_40
      · skip
        have c_10 : ¬ 15 < i := fun h9 => c_10 ((nI_ltI (a := 15) (b := i) (by omega) (by omega)).mpr h9)
        refine lv_iload hx hb dX6_progressOf_13 (lv_at hl 1 rfl) ?_
        refine lv_iload hx hb dX6_progressOf_15 (lv_at hl 0 rfl) ?_
        refine lv_aload_n hx hb dX6_progressOf_17 rfl (lv_at hl 3 rfl) ?_
        refine lv_iload_n hx hb dX6_progressOf_18 rfl (lv_at hl 4 rfl) ?_
        refine lv_bipush (v := 16) hx hb dX6_progressOf_19 (by decide) ?_
        refine lv_iload_n hx hb dX6_progressOf_21 rfl (lv_at hl 5 rfl) ?_
        refine lv_imul hx hb dX6_progressOf_22 ?_
        refine zz_i (y := nI (16 * sd)) (pk_mul 16 sd) ?_
        refine lv_iadd hx hb dX6_progressOf_23 ?_
        refine zz_i (y := nI (b + 16 * sd)) (nI_add b (16 * sd)) ?_
        refine lv_iload hx hb dX6_progressOf_24 (lv_at hl 0 rfl) ?_
        refine lv_iadd hx hb dX6_progressOf_26 ?_
        refine zz_i (y := nI (b + 16 * sd + i)) (nI_add (b + 16 * sd) i) ?_
        refine zi_iald hx hb hK hP 0 0 rfl rfl (j := b + 16 * sd + i) rfl (by omega) (by omega) dX6_progressOf_27 ?_
        refine zz_i (y := nI (dg n i)) (hr9 i (by omega)) ?_
        refine lv_imul hx hb dX6_progressOf_28 ?_
        refine zz_i (y := nI (i * dg n i)) (pk_mul i (dg n i)) ?_
        refine lv_iadd hx hb dX6_progressOf_29 ?_
        refine zz_i (y := nI (psum n (i + 1))) (by rw [hsv, nI_add]; rfl) ?_
        refine lv_istore (lv' := [(4, .int (nI (psum n (i + 1)))), (5, .int (nI i)), (0, .ref bx), (1, .ref rx), (2, .int (nI b)), (3, .int (nI sd))]) hx hb dX6_progressOf_30 hl (by decide) rfl (fun ls hl => ?_)
        refine lv_iinc (v := nI (i + 1)) (lv' := [(5, .int (nI (i + 1))), (4, .int (nI (psum n (i + 1)))), (0, .ref bx), (1, .ref rx), (2, .int (nI b)), (3, .int (nI sd))]) hx hb dX6_progressOf_32 hl (k := 1) rfl (nI_1 i) (by decide) rfl (fun ls hl => ?_)
        refine lv_goto (tgt := 6) hx hb dX6_progressOf_35 (by decide) ?_
        exact ih6 (i + 1) _ (by omega) rfl (by omega) _ _ hP hS _ (lv_sub hl [0, 1, 2, 3, 4, 5] rfl)
  exact lp 17 0 0 (by omega) rfl (by omega) _ _ hP hS _ (lv_sub hl [0, 1, 2, 3, 4, 5] rfl)

set_option maxHeartbeats 4000000 in
set_option maxRecDepth 100000 in
theorem c_X6_onlyOne (l : Launch) (dC : Nat → ClassId) (dI : Nat → Nat → Nat) (cyI cyJ : ClassId) (k : Nat) (hk1 : 1 ≤ k) (bx bl ba bt bg be bf bw bs bm bn bb bu bh : Nat) (thr sI tI wI cI : Int32) (rx N9 : Nat) (hN : N9 < 1000) (F : Nat → Int32) (b sd n : Nat) (hb9 : b + 32 ≤ N9) (hsd : sd ≤ 1) (hr9 : zHf F b sd n) (hO : zok k n) : Met l yX6_onlyOne wsX6_onlyOne ({ frames := 0, cells := 0, slots := 0, locals := 0 }) (zPc [.ref bx, .ref rx, .int (nI b), .int (nI sd)] (dC, dI) vwCl [(cyI, .int), (cyJ, .long)] [(bx, .inr (3, [.int thr, .int (nI k), .int sI, .int tI, .int wI, .int cI, .ref bl, .ref ba, .ref bt, .ref bg, .ref be, .ref bf, .ref bw, .ref bs, .ref bm, .ref bn, .ref bb, .ref bu, .ref bh])), (rx, .inl (cyI, N9, .inl F))] (fun _ => True)) (va_Qi (fun (r : Int32) (_ : Unit) => r = zOne k n) (fun _ _ => True) zF) 0 0 zF := by
  refine Met.ofW (cc := cX6_onlyOne) (maxL := 6) (ret := (some .int)) (by decide) rfl ?_
  intro p e s m args below meth c s₁ B hml hv
  obtain ⟨rfl, hP, hK, hX⟩ := hv
  have hx := B.exec
  have hb := B.bytes
  have hr := B.returns
  have hts := atoms_spec (ws := wsX6_onlyOne) B.pre
  have hown : s.vm.findClass RX6 = some m.cls := findClass_of_methodNamed B.named
  have hlocks := B.notSynchronized
  have hinX6 : ∀ w ∈ wsX60, w ∈ wsX6_onlyOne := by decide +kernel
  have hl := lv_entry ([.ref bx, .ref rx, .int (nI b), .int (nI sd)]) (n := 6) (Nat.le_of_ble_eq_true rfl)
  rw [lg_entry_eq]
  generalize (lg_sl ([.ref bx, .ref rx, .int (nI b), .int (nI sd)]) ++ List.replicate (6 - (lg_sl ([.ref bx, .ref rx, .int (nI b), .int (nI sd)])).length) Slot.unset).toArray = ls at hl ⊢
  have hl : lv_has ls 6 [(0, .ref bx), (1, .ref rx), (2, .int (nI b)), (3, .int (nI sd))] := hl
  have hS : va_S zF s.heap s.heap [] := va_S.rf
  generalize hQe : MQ below _ _ _ _ _ _ = Q
  have hk4 := hO.1
  have hg0 := dg_lt n 15
  refine lv_iconst (v := -1) hx hb dX6_onlyOne_0 (by decide) ?_
  refine lv_istore (lv' := [(4, .int (-1)), (0, .ref bx), (1, .ref rx), (2, .int (nI b)), (3, .int (nI sd))]) hx hb dX6_onlyOne_1 hl (by decide) rfl (fun ls hl => ?_)
  refine lv_iconst (v := 0) hx hb dX6_onlyOne_3 (by decide) ?_
  refine lv_istore (lv' := [(5, .int 0), (4, .int (-1)), (0, .ref bx), (1, .ref rx), (2, .int (nI b)), (3, .int (nI sd))]) hx hb dX6_onlyOne_4 hl (by decide) rfl (fun ls hl => ?_)
  have lp : ∀ (n9 : Nat) (i : Nat) (fv : Int32), i ≤ 15 → fv = zls n i → 15 - i < n9 → ∀ (H : Heap) (locs : List Loc), va_P (dC, dI) vwCl [(bx, .inr (3, [.int thr, .int (nI k), .int sI, .int tI, .int wI, .int cI, .ref bl, .ref ba, .ref bt, .ref bg, .ref be, .ref bf, .ref bw, .ref bs, .ref bm, .ref bn, .ref bb, .ref bu, .ref bh])), (rx, .inl (cyI, N9, .inl F))] H → va_S zF s.heap H locs → ∀ ls : Array Slot, lv_has ls 6 [(5, .int (nI i)), (4, .int fv), (0, .ref bx), (1, .ref rx), (2, .int (nI b)), (3, .int (nI sd))] → W p l e (headSpec wsX6_onlyOne ({ frames := 0, cells := 0, slots := 0, locals := 0 })).room s m ([.ref bx, .ref rx, .int (nI b), .int (nI sd)] : List Value).toArray below meth c H locs 0 0 Q (F0 m 6 ls []) := by
    intro n9
    induction n9 with
    | zero => intro i fv hi2 hfv hm9; exact absurd hm9 (Nat.not_lt_zero _)
    | succ n9 ih6 =>
      intro i fv hi2 hfv hm9 H locs hP hS ls hl
      have hg1 := dg_lt n i
      refine lv_iload hx hb dX6_onlyOne_6 (lv_at hl 0 rfl) ?_
      refine lv_bipush (v := 15) hx hb dX6_onlyOne_8 (by decide) ?_
      refine lv_icmp_ge (tgt := 42) hx hb dX6_onlyOne_10 (by decide) (fun c_10 => ?_) (fun c_10 => ?_)
      · skip
        have c_10 : 15 ≤ i := (nI_leI (a := 15) (b := i) (by omega) (by omega)).mp c_10
        refine lv_aload_n hx hb dX6_onlyOne_42 rfl (lv_at hl 3 rfl) ?_
        refine lv_iload_n hx hb dX6_onlyOne_43 rfl (lv_at hl 4 rfl) ?_
        refine lv_bipush (v := 16) hx hb dX6_onlyOne_44 (by decide) ?_
        refine lv_iload_n hx hb dX6_onlyOne_46 rfl (lv_at hl 5 rfl) ?_
        refine lv_imul hx hb dX6_onlyOne_47 ?_
        refine zz_i (y := nI (16 * sd)) (pk_mul 16 sd) ?_
        refine lv_iadd hx hb dX6_onlyOne_48 ?_
        refine zz_i (y := nI (b + 16 * sd)) (nI_add b (16 * sd)) ?_
        refine lv_bipush (v := 15) hx hb dX6_onlyOne_49 (by decide) ?_
        refine lv_iadd hx hb dX6_onlyOne_51 ?_
        refine zz_i (y := nI (b + 16 * sd + 15)) (nI_add (b + 16 * sd) 15) ?_
        refine zi_iald hx hb hK hP 1 0 rfl rfl (j := b + 16 * sd + 15) rfl (by omega) (by omega) dX6_onlyOne_52 ?_
        refine zz_i (y := nI (dg n 15)) (hr9 15 (by omega)) ?_
        refine lv_aload_n hx hb dX6_onlyOne_53 rfl (lv_at hl 2 rfl) ?_
        refine va_get (D := (dC, dI)) (ci := 3) (v := .int (nI k)) (C := RX6) (T := TX6) (N := 19) hx hb hts hinX6 hown hK hP 0 rfl rfl 1 (by decide) (hts (.fieldLink RX6 90 "RoyalUrTableModel" "pieces" "I") (List.mem_of_getElem? (i := 1) rfl)) (fun _ h9 => h9) rfl dX6_onlyOne_54 ?_
        refine lv_iconst (v := 1) hx hb dX6_onlyOne_57 (by decide) ?_
        refine lv_isub hx hb dX6_onlyOne_58 ?_
        refine zz_i (y := nI (k - 1)) (pk_sub (a := k) (b := 1) (by omega)) ?_
        refine lv_icmp_ne (tgt := 67) hx hb dX6_onlyOne_59 (by decide) (fun c_59 => ?_) (fun c_59 => ?_)
        · skip
          have c_59 : ¬ (dg n 15) = (k - 1) := fun h9 => c_59 ((nI_eq (a := dg n 15) (b := k - 1) (by omega) (by omega)).mpr h9)
          refine lv_iconst (v := -1) hx hb dX6_onlyOne_67 (by decide) ?_
          subst hQe
          exact W.iret (v := -1) hx hb hr (fun t ht hW => ⟨⟨_, (), rfl, (by rw [zOne, if_neg c_59]), trivial⟩, hS.F ht⟩) hS.2.2 dX6_onlyOne_68
        · skip
          have c_59 : (dg n 15) = (k - 1) := (nI_eq (a := dg n 15) (b := k - 1) (by omega) (by omega)).mp c_59
          refine lv_iload hx hb dX6_onlyOne_62 (lv_at hl 1 rfl) ?_
          refine lv_goto (tgt := 68) hx hb dX6_onlyOne_64 (by decide) ?_
          subst hQe
          exact W.iret (v := fv) hx hb hr (fun t ht hW => ⟨⟨_, (), rfl, (by rw [hfv, show i = 15 by omega, zOne, if_pos c_59]; exact zls_fs hO hk1 c_59), trivial⟩, hS.F ht⟩) hS.2.2 dX6_onlyOne_68
      · skip
        have c_10 : ¬ 15 ≤ i := fun h9 => c_10 ((nI_leI (a := 15) (b := i) (by omega) (by omega)).mpr h9)
        refine lv_aload_n hx hb dX6_onlyOne_13 rfl (lv_at hl 3 rfl) ?_
        refine lv_iload_n hx hb dX6_onlyOne_14 rfl (lv_at hl 4 rfl) ?_
        refine lv_bipush (v := 16) hx hb dX6_onlyOne_15 (by decide) ?_
        refine lv_iload_n hx hb dX6_onlyOne_17 rfl (lv_at hl 5 rfl) ?_
        refine lv_imul hx hb dX6_onlyOne_18 ?_
        refine zz_i (y := nI (16 * sd)) (pk_mul 16 sd) ?_
        refine lv_iadd hx hb dX6_onlyOne_19 ?_
        refine zz_i (y := nI (b + 16 * sd)) (nI_add b (16 * sd)) ?_
        refine lv_iload hx hb dX6_onlyOne_20 (lv_at hl 0 rfl) ?_
        refine lv_iadd hx hb dX6_onlyOne_22 ?_
        refine zz_i (y := nI (b + 16 * sd + i)) (nI_add (b + 16 * sd) i) ?_
        refine zi_iald hx hb hK hP 1 0 rfl rfl (j := b + 16 * sd + i) rfl (by omega) (by omega) dX6_onlyOne_23 ?_
        refine zz_i (y := nI (dg n i)) (hr9 i (by omega)) ?_
        refine lv_if_le (tgt := 32) hx hb dX6_onlyOne_24 (by decide) (fun c_24 => ?_) (fun c_24 => ?_)
        · skip
          have c_24 : (dg n i) ≤ 0 := (nI_leI (a := dg n i) (b := 0) (by omega) (by omega)).mp c_24
          refine lv_iload hx hb dX6_onlyOne_32 (lv_at hl 1 rfl) ?_
          refine lv_istore (lv' := [(4, .int fv), (5, .int (nI i)), (0, .ref bx), (1, .ref rx), (2, .int (nI b)), (3, .int (nI sd))]) hx hb dX6_onlyOne_34 hl (by decide) rfl (fun ls hl => ?_)
          refine lv_iinc (v := nI (i + 1)) (lv' := [(5, .int (nI (i + 1))), (4, .int fv), (0, .ref bx), (1, .ref rx), (2, .int (nI b)), (3, .int (nI sd))]) hx hb dX6_onlyOne_36 hl (k := 1) rfl (nI_1 i) (by decide) rfl (fun ls hl => ?_)
          refine lv_goto (tgt := 6) hx hb dX6_onlyOne_39 (by decide) ?_
          exact ih6 (i + 1) _ (by omega) (by rw [zls_s, if_neg (by omega)]; exact hfv) (by omega) _ _ hP hS _ (lv_sub hl [0, 1, 2, 3, 4, 5] rfl)
        · skip
          have c_24 : ¬ (dg n i) ≤ 0 := fun h9 => c_24 ((nI_leI (a := dg n i) (b := 0) (by omega) (by omega)).mpr h9)
          refine lv_iload hx hb dX6_onlyOne_27 (lv_at hl 0 rfl) ?_
          refine lv_goto (tgt := 34) hx hb dX6_onlyOne_29 (by decide) ?_
          refine lv_istore (lv' := [(4, .int (nI i)), (5, .int (nI i)), (0, .ref bx), (1, .ref rx), (2, .int (nI b)), (3, .int (nI sd))]) hx hb dX6_onlyOne_34 hl (by decide) rfl (fun ls hl => ?_)
          refine lv_iinc (v := nI (i + 1)) (lv' := [(5, .int (nI (i + 1))), (4, .int (nI i)), (0, .ref bx), (1, .ref rx), (2, .int (nI b)), (3, .int (nI sd))]) hx hb dX6_onlyOne_36 hl (k := 1) rfl (nI_1 i) (by decide) rfl (fun ls hl => ?_)
          refine lv_goto (tgt := 6) hx hb dX6_onlyOne_39 (by decide) ?_
          exact ih6 (i + 1) _ (by omega) (by rw [zls_s, if_pos (by omega)]) (by omega) _ _ hP hS _ (lv_sub hl [0, 1, 2, 3, 4, 5] rfl)
  exact lp 16 0 (-1) (by omega) rfl (by omega) _ _ hP hS _ (lv_sub hl [0, 1, 2, 3, 4, 5] rfl)

set_option maxHeartbeats 4000000 in
set_option maxRecDepth 100000 in
theorem c_X6_leaf (l : Launch) (dC : Nat → ClassId) (dI : Nat → Nat → Nat) (cyI cyJ : ClassId) (k : Nat) (hk1 : 1 ≤ k) (bx bl ba bt bg be bf bw bs bm bn bb bu bh : Nat) (thr sI tI wI cI : Int32) (Wf ff : Nat → Int32) (b sd own oth : Nat) (hb9 : b + 32 ≤ 160) (hsd : sd ≤ 1) (hr9 : zRow Wf b sd own oth) (hO : zok k own) (hQ : zok k oth) (hff : zFt 40 ff) : Met l yX6_leaf wsX6_leaf ({ frames := 1, cells := 0, slots := 0, locals := 25 }) (zPc [.ref bx, .int (nI b), .int (nI sd)] (dC, dI) vwCl [(cyI, .int), (cyJ, .long)] [(bx, .inr (3, [.int thr, .int (nI k), .int sI, .int tI, .int wI, .int cI, .ref bl, .ref ba, .ref bt, .ref bg, .ref be, .ref bf, .ref bw, .ref bs, .ref bm, .ref bn, .ref bb, .ref bu, .ref bh])), (bw, .inl (cyI, 160, .inl Wf)), (bf, .inl (cyI, 225, .inl ff))] (fun _ => True)) (va_Qi (fun (r : Int32) (_ : Unit) => r = nI (zLf k own oth)) (fun _ _ => True) zF) 0 0 zF := by
  refine Met.ofW (cc := cX6_leaf) (maxL := 6) (ret := (some .int)) (by decide) rfl ?_
  intro p e s m args below meth c s₁ B hml hv
  obtain ⟨rfl, hP, hK, hX⟩ := hv
  have hx := B.exec
  have hb := B.bytes
  have hr := B.returns
  have hts := atoms_spec (ws := wsX6_leaf) B.pre
  have hown : s.vm.findClass RX6 = some m.cls := findClass_of_methodNamed B.named
  have hlocks := B.notSynchronized
  have hinX6 : ∀ w ∈ wsX60, w ∈ wsX6_leaf := by decide +kernel
  have hl := lv_entry ([.ref bx, .int (nI b), .int (nI sd)]) (n := 6) (Nat.le_of_ble_eq_true rfl)
  rw [lg_entry_eq]
  generalize (lg_sl ([.ref bx, .int (nI b), .int (nI sd)]) ++ List.replicate (6 - (lg_sl ([.ref bx, .int (nI b), .int (nI sd)])).length) Slot.unset).toArray = ls at hl ⊢
  have hl : lv_has ls 6 [(0, .ref bx), (1, .int (nI b)), (2, .int (nI sd))] := hl
  have hS : va_S zF s.heap s.heap [] := va_S.rf
  have hp1 := hO.ps
  have hp2 := hQ.ps
  refine lv_aload_n hx hb dX6_leaf_0 rfl (lv_at hl 0 rfl) ?_
  refine lv_aload_n hx hb dX6_leaf_1 rfl (lv_at hl 0 rfl) ?_
  refine va_get (D := (dC, dI)) (ci := 3) (v := .ref bw) (C := RX6) (T := TX6) (N := 19) hx hb hts hinX6 hown hK hP 0 rfl rfl 12 (by decide) (hts (.fieldLink RX6 35 "RoyalUrTableModel" "walk" "[I") (List.mem_of_getElem? (i := 1) rfl)) (fun _ h9 => h9) rfl dX6_leaf_2 ?_
  refine lv_iload_n hx hb dX6_leaf_5 rfl (lv_at hl 1 rfl) ?_
  refine lv_iload_n hx hb dX6_leaf_6 rfl (lv_at hl 2 rfl) ?_
  refine zro_i (va_runV (As := [.ref bw, .int (nI b), .int (nI sd)]) (rest := []) ⟨hx, hb, hml, hown, hts⟩ (c_X6_onlyOne l dC dI cyI cyJ k hk1 bx bl ba bt bg be bf bw bs bm bn bb bu bh thr sI tI wI cI bw 160 (by omega) Wf b sd own (by omega) (by omega) hr9.1 hO) (cwV 3 hts gX6_leaf_X6_onlyOne rfl rfl rfl (by decide +kernel) ⟨Nat.le_of_ble_eq_true rfl, Nat.le_of_ble_eq_true rfl⟩) (zPc_V (ci := 3) (q0 := 0) zB_T hP hK rfl rfl [0, 1] rfl (fun _ _ _ => trivial)) rfl rfl hl.1 rfl (lv_room (Nat.le_of_ble_eq_true rfl)) dX6_leaf_7 ⟨Nat.zero_le _, Nat.zero_le _⟩) hP hS (fun H locs hP hS => ?_)
  refine lv_istore_n (lv' := [(3, .int (zOne k own)), (0, .ref bx), (1, .int (nI b)), (2, .int (nI sd))]) hx hb dX6_leaf_10 rfl hl (by decide) rfl (fun ls hl => ?_)
  refine lv_aload_n hx hb dX6_leaf_11 rfl (lv_at hl 1 rfl) ?_
  refine lv_aload_n hx hb dX6_leaf_12 rfl (lv_at hl 1 rfl) ?_
  refine va_get (D := (dC, dI)) (ci := 3) (v := .ref bw) (C := RX6) (T := TX6) (N := 19) hx hb hts hinX6 hown hK hP 0 rfl rfl 12 (by decide) (hts (.fieldLink RX6 35 "RoyalUrTableModel" "walk" "[I") (List.mem_of_getElem? (i := 1) rfl)) (fun _ h9 => h9) rfl dX6_leaf_13 ?_
  refine lv_iload_n hx hb dX6_leaf_16 rfl (lv_at hl 2 rfl) ?_
  refine lv_iconst (v := 1) hx hb dX6_leaf_17 (by decide) ?_
  refine lv_iload_n hx hb dX6_leaf_18 rfl (lv_at hl 3 rfl) ?_
  refine lv_isub hx hb dX6_leaf_19 ?_
  refine zz_i (y := nI (1 - sd)) (pk_sub (a := 1) (b := sd) (by omega)) ?_
  refine zro_i (va_runV (As := [.ref bw, .int (nI b), .int (nI (1 - sd))]) (rest := []) ⟨hx, hb, hml, hown, hts⟩ (c_X6_onlyOne l dC dI cyI cyJ k hk1 bx bl ba bt bg be bf bw bs bm bn bb bu bh thr sI tI wI cI bw 160 (by omega) Wf b (1 - sd) oth (by omega) (by omega) hr9.2 hQ) (cwV 3 hts gX6_leaf_X6_onlyOne rfl rfl rfl (by decide +kernel) ⟨Nat.le_of_ble_eq_true rfl, Nat.le_of_ble_eq_true rfl⟩) (zPc_V (ci := 3) (q0 := 0) zB_T hP hK rfl rfl [0, 1] rfl (fun _ _ _ => trivial)) rfl rfl hl.1 rfl (lv_room (Nat.le_of_ble_eq_true rfl)) dX6_leaf_20 ⟨Nat.zero_le _, Nat.zero_le _⟩) hP hS (fun H locs hP hS => ?_)
  refine lv_istore (lv' := [(4, .int (zOne k oth)), (3, .int (zOne k own)), (0, .ref bx), (1, .int (nI b)), (2, .int (nI sd))]) hx hb dX6_leaf_23 hl (by decide) rfl (fun ls hl => ?_)
  refine lv_iload_n hx hb dX6_leaf_25 rfl (lv_at hl 1 rfl) ?_
  refine lv_iconst (v := -1) hx hb dX6_leaf_26 (by decide) ?_
  refine lv_icmp_eq (tgt := 49) hx hb dX6_leaf_27 (by decide) (fun c_27 => ?_) (fun c_27 => ?_)
  · skip
    refine lv_ldc (v := 500000000) hx hb hown (hts (.constant RX6 79 (500000000)) (List.mem_of_getElem? (i := 3) rfl)) dX6_leaf_49 ?_
    refine lv_ldc (v := 4000000) hx hb hown (hts (.constant RX6 97 (4000000)) (List.mem_of_getElem? (i := 4) rfl)) dX6_leaf_51 ?_
    refine lv_aload_n hx hb dX6_leaf_53 rfl (lv_at hl 2 rfl) ?_
    refine lv_aload_n hx hb dX6_leaf_54 rfl (lv_at hl 2 rfl) ?_
    refine va_get (D := (dC, dI)) (ci := 3) (v := .ref bw) (C := RX6) (T := TX6) (N := 19) hx hb hts hinX6 hown hK hP 0 rfl rfl 12 (by decide) (hts (.fieldLink RX6 35 "RoyalUrTableModel" "walk" "[I") (List.mem_of_getElem? (i := 1) rfl)) (fun _ h9 => h9) rfl dX6_leaf_55 ?_
    refine lv_iload_n hx hb dX6_leaf_58 rfl (lv_at hl 3 rfl) ?_
    refine lv_iload_n hx hb dX6_leaf_59 rfl (lv_at hl 4 rfl) ?_
    refine zro_i (va_runV (As := [.ref bw, .int (nI b), .int (nI sd)]) (rest := [.int 4000000, .int 500000000]) ⟨hx, hb, hml, hown, hts⟩ (c_X6_progressOf l dC dI cyI cyJ bx bw 160 (by omega) Wf b sd own (by omega) (by omega) hr9.1) (cwV 3 hts gX6_leaf_X6_progressOf rfl rfl rfl (by decide +kernel) ⟨Nat.le_of_ble_eq_true rfl, Nat.le_of_ble_eq_true rfl⟩) (zPc_V (ci := 3) (q0 := 0) zB_T hP hK rfl rfl [1] rfl (fun _ _ _ => trivial)) rfl rfl hl.1 rfl (lv_room (Nat.le_of_ble_eq_true rfl)) dX6_leaf_60 ⟨Nat.zero_le _, Nat.zero_le _⟩) hP hS (fun H locs hP hS => ?_)
    refine lv_aload_n hx hb dX6_leaf_63 rfl (lv_at hl 2 rfl) ?_
    refine lv_aload_n hx hb dX6_leaf_64 rfl (lv_at hl 2 rfl) ?_
    refine va_get (D := (dC, dI)) (ci := 3) (v := .ref bw) (C := RX6) (T := TX6) (N := 19) hx hb hts hinX6 hown hK hP 0 rfl rfl 12 (by decide) (hts (.fieldLink RX6 35 "RoyalUrTableModel" "walk" "[I") (List.mem_of_getElem? (i := 1) rfl)) (fun _ h9 => h9) rfl dX6_leaf_65 ?_
    refine lv_iload_n hx hb dX6_leaf_68 rfl (lv_at hl 3 rfl) ?_
    refine lv_iconst (v := 1) hx hb dX6_leaf_69 (by decide) ?_
    refine lv_iload_n hx hb dX6_leaf_70 rfl (lv_at hl 4 rfl) ?_
    refine lv_isub hx hb dX6_leaf_71 ?_
    refine zz_i (y := nI (1 - sd)) (pk_sub (a := 1) (b := sd) (by omega)) ?_
    refine zro_i (va_runV (As := [.ref bw, .int (nI b), .int (nI (1 - sd))]) (rest := [.int (nI (psum own 16)), .int 4000000, .int 500000000]) ⟨hx, hb, hml, hown, hts⟩ (c_X6_progressOf l dC dI cyI cyJ bx bw 160 (by omega) Wf b (1 - sd) oth (by omega) (by omega) hr9.2) (cwV 3 hts gX6_leaf_X6_progressOf rfl rfl rfl (by decide +kernel) ⟨Nat.le_of_ble_eq_true rfl, Nat.le_of_ble_eq_true rfl⟩) (zPc_V (ci := 3) (q0 := 0) zB_T hP hK rfl rfl [1] rfl (fun _ _ _ => trivial)) rfl rfl hl.1 rfl (lv_room (Nat.le_of_ble_eq_true rfl)) dX6_leaf_72 ⟨Nat.zero_le _, Nat.zero_le _⟩) hP hS (fun H locs hP hS => ?_)
    refine lv_isub hx hb dX6_leaf_75 ?_
    refine lv_imul hx hb dX6_leaf_76 ?_
    refine lv_iadd hx hb dX6_leaf_77 ?_
    refine zz_i (y := nI (500000000 + 4000000 * psum own 16 - 4000000 * psum oth 16)) (zlead hp1 hp2) ?_
    refine lv_istore (lv' := [(5, .int (nI (500000000 + 4000000 * psum own 16 - 4000000 * psum oth 16))), (4, .int (zOne k oth)), (3, .int (zOne k own)), (0, .ref bx), (1, .int (nI b)), (2, .int (nI sd))]) hx hb dX6_leaf_78 hl (by decide) rfl (fun ls hl => ?_)
    refine lv_iload hx hb dX6_leaf_80 (lv_at hl 0 rfl) ?_
    refine lv_iconst (v := 1) hx hb dX6_leaf_82 (by decide) ?_
    refine lv_icmp_ge (tgt := 90) hx hb dX6_leaf_83 (by decide) (fun c_83 => ?_) (fun c_83 => ?_)
    · skip
      have c_83 : 1 ≤ (500000000 + 4000000 * psum own 16 - 4000000 * psum oth 16) := (nI_leI (a := 1) (b := 500000000 + 4000000 * psum own 16 - 4000000 * psum oth 16) (by omega) (by omega)).mp c_83
      refine lv_iload hx hb dX6_leaf_90 (lv_at hl 0 rfl) ?_
      refine lv_ldc (v := 999999999) hx hb hown (hts (.constant RX6 101 (999999999)) (List.mem_of_getElem? (i := 5) rfl)) dX6_leaf_92 ?_
      refine lv_icmp_le (tgt := 102) hx hb dX6_leaf_94 (by decide) (fun c_94 => ?_) (fun c_94 => ?_)
      · skip
        have c_94 : (500000000 + 4000000 * psum own 16 - 4000000 * psum oth 16) ≤ 999999999 := (nI_leI (a := 500000000 + 4000000 * psum own 16 - 4000000 * psum oth 16) (b := 999999999) (by omega) (by omega)).mp c_94
        refine lv_iload hx hb dX6_leaf_102 (lv_at hl 0 rfl) ?_
        exact W.iret (v := nI (500000000 + 4000000 * psum own 16 - 4000000 * psum oth 16)) hx hb hr (fun t ht hW => ⟨⟨_, (), rfl, (by rw [zLf, if_neg (fun h => zOne_n hO hk1 c_27 h.1)]; exact congrArg nI (by omega)), trivial⟩, hS.F ht⟩) hS.2.2 dX6_leaf_104
      · skip
        have c_94 : ¬ (500000000 + 4000000 * psum own 16 - 4000000 * psum oth 16) ≤ 999999999 := fun h9 => c_94 ((nI_leI (a := 500000000 + 4000000 * psum own 16 - 4000000 * psum oth 16) (b := 999999999) (by omega) (by omega)).mpr h9)
        exact absurd (by omega) c_94
    · skip
      have c_83 : ¬ 1 ≤ (500000000 + 4000000 * psum own 16 - 4000000 * psum oth 16) := fun h9 => c_83 ((nI_leI (a := 1) (b := 500000000 + 4000000 * psum own 16 - 4000000 * psum oth 16) (by omega) (by omega)).mpr h9)
      exact absurd (by omega) c_83
  · skip
    refine lv_iload hx hb dX6_leaf_30 (lv_at hl 0 rfl) ?_
    refine lv_iconst (v := -1) hx hb dX6_leaf_32 (by decide) ?_
    refine lv_icmp_eq (tgt := 49) hx hb dX6_leaf_33 (by decide) (fun c_33 => ?_) (fun c_33 => ?_)
    · skip
      refine lv_ldc (v := 500000000) hx hb hown (hts (.constant RX6 79 (500000000)) (List.mem_of_getElem? (i := 3) rfl)) dX6_leaf_49 ?_
      refine lv_ldc (v := 4000000) hx hb hown (hts (.constant RX6 97 (4000000)) (List.mem_of_getElem? (i := 4) rfl)) dX6_leaf_51 ?_
      refine lv_aload_n hx hb dX6_leaf_53 rfl (lv_at hl 2 rfl) ?_
      refine lv_aload_n hx hb dX6_leaf_54 rfl (lv_at hl 2 rfl) ?_
      refine va_get (D := (dC, dI)) (ci := 3) (v := .ref bw) (C := RX6) (T := TX6) (N := 19) hx hb hts hinX6 hown hK hP 0 rfl rfl 12 (by decide) (hts (.fieldLink RX6 35 "RoyalUrTableModel" "walk" "[I") (List.mem_of_getElem? (i := 1) rfl)) (fun _ h9 => h9) rfl dX6_leaf_55 ?_
      refine lv_iload_n hx hb dX6_leaf_58 rfl (lv_at hl 3 rfl) ?_
      refine lv_iload_n hx hb dX6_leaf_59 rfl (lv_at hl 4 rfl) ?_
      refine zro_i (va_runV (As := [.ref bw, .int (nI b), .int (nI sd)]) (rest := [.int 4000000, .int 500000000]) ⟨hx, hb, hml, hown, hts⟩ (c_X6_progressOf l dC dI cyI cyJ bx bw 160 (by omega) Wf b sd own (by omega) (by omega) hr9.1) (cwV 3 hts gX6_leaf_X6_progressOf rfl rfl rfl (by decide +kernel) ⟨Nat.le_of_ble_eq_true rfl, Nat.le_of_ble_eq_true rfl⟩) (zPc_V (ci := 3) (q0 := 0) zB_T hP hK rfl rfl [1] rfl (fun _ _ _ => trivial)) rfl rfl hl.1 rfl (lv_room (Nat.le_of_ble_eq_true rfl)) dX6_leaf_60 ⟨Nat.zero_le _, Nat.zero_le _⟩) hP hS (fun H locs hP hS => ?_)
      refine lv_aload_n hx hb dX6_leaf_63 rfl (lv_at hl 2 rfl) ?_
      refine lv_aload_n hx hb dX6_leaf_64 rfl (lv_at hl 2 rfl) ?_
      refine va_get (D := (dC, dI)) (ci := 3) (v := .ref bw) (C := RX6) (T := TX6) (N := 19) hx hb hts hinX6 hown hK hP 0 rfl rfl 12 (by decide) (hts (.fieldLink RX6 35 "RoyalUrTableModel" "walk" "[I") (List.mem_of_getElem? (i := 1) rfl)) (fun _ h9 => h9) rfl dX6_leaf_65 ?_
      refine lv_iload_n hx hb dX6_leaf_68 rfl (lv_at hl 3 rfl) ?_
      refine lv_iconst (v := 1) hx hb dX6_leaf_69 (by decide) ?_
      refine lv_iload_n hx hb dX6_leaf_70 rfl (lv_at hl 4 rfl) ?_
      refine lv_isub hx hb dX6_leaf_71 ?_
      refine zz_i (y := nI (1 - sd)) (pk_sub (a := 1) (b := sd) (by omega)) ?_
      refine zro_i (va_runV (As := [.ref bw, .int (nI b), .int (nI (1 - sd))]) (rest := [.int (nI (psum own 16)), .int 4000000, .int 500000000]) ⟨hx, hb, hml, hown, hts⟩ (c_X6_progressOf l dC dI cyI cyJ bx bw 160 (by omega) Wf b (1 - sd) oth (by omega) (by omega) hr9.2) (cwV 3 hts gX6_leaf_X6_progressOf rfl rfl rfl (by decide +kernel) ⟨Nat.le_of_ble_eq_true rfl, Nat.le_of_ble_eq_true rfl⟩) (zPc_V (ci := 3) (q0 := 0) zB_T hP hK rfl rfl [1] rfl (fun _ _ _ => trivial)) rfl rfl hl.1 rfl (lv_room (Nat.le_of_ble_eq_true rfl)) dX6_leaf_72 ⟨Nat.zero_le _, Nat.zero_le _⟩) hP hS (fun H locs hP hS => ?_)
      refine lv_isub hx hb dX6_leaf_75 ?_
      refine lv_imul hx hb dX6_leaf_76 ?_
      refine lv_iadd hx hb dX6_leaf_77 ?_
      refine zz_i (y := nI (500000000 + 4000000 * psum own 16 - 4000000 * psum oth 16)) (zlead hp1 hp2) ?_
      refine lv_istore (lv' := [(5, .int (nI (500000000 + 4000000 * psum own 16 - 4000000 * psum oth 16))), (4, .int (zOne k oth)), (3, .int (zOne k own)), (0, .ref bx), (1, .int (nI b)), (2, .int (nI sd))]) hx hb dX6_leaf_78 hl (by decide) rfl (fun ls hl => ?_)
      refine lv_iload hx hb dX6_leaf_80 (lv_at hl 0 rfl) ?_
      refine lv_iconst (v := 1) hx hb dX6_leaf_82 (by decide) ?_
      refine lv_icmp_ge (tgt := 90) hx hb dX6_leaf_83 (by decide) (fun c_83 => ?_) (fun c_83 => ?_)
      · skip
        have c_83 : 1 ≤ (500000000 + 4000000 * psum own 16 - 4000000 * psum oth 16) := (nI_leI (a := 1) (b := 500000000 + 4000000 * psum own 16 - 4000000 * psum oth 16) (by omega) (by omega)).mp c_83
        refine lv_iload hx hb dX6_leaf_90 (lv_at hl 0 rfl) ?_
        refine lv_ldc (v := 999999999) hx hb hown (hts (.constant RX6 101 (999999999)) (List.mem_of_getElem? (i := 5) rfl)) dX6_leaf_92 ?_
        refine lv_icmp_le (tgt := 102) hx hb dX6_leaf_94 (by decide) (fun c_94 => ?_) (fun c_94 => ?_)
        · skip
          have c_94 : (500000000 + 4000000 * psum own 16 - 4000000 * psum oth 16) ≤ 999999999 := (nI_leI (a := 500000000 + 4000000 * psum own 16 - 4000000 * psum oth 16) (b := 999999999) (by omega) (by omega)).mp c_94
          refine lv_iload hx hb dX6_leaf_102 (lv_at hl 0 rfl) ?_
          exact W.iret (v := nI (500000000 + 4000000 * psum own 16 - 4000000 * psum oth 16)) hx hb hr (fun t ht hW => ⟨⟨_, (), rfl, (by rw [zLf, if_neg (fun h => zOne_n hQ hk1 c_33 h.2)]; exact congrArg nI (by omega)), trivial⟩, hS.F ht⟩) hS.2.2 dX6_leaf_104
        · skip
          have c_94 : ¬ (500000000 + 4000000 * psum own 16 - 4000000 * psum oth 16) ≤ 999999999 := fun h9 => c_94 ((nI_leI (a := 500000000 + 4000000 * psum own 16 - 4000000 * psum oth 16) (b := 999999999) (by omega) (by omega)).mpr h9)
          exact absurd (by omega) c_94
      · skip
        have c_83 : ¬ 1 ≤ (500000000 + 4000000 * psum own 16 - 4000000 * psum oth 16) := fun h9 => c_83 ((nI_leI (a := 1) (b := 500000000 + 4000000 * psum own 16 - 4000000 * psum oth 16) (by omega) (by omega)).mpr h9)
        exact absurd (by omega) c_83
    · skip
      obtain ⟨ho1, ho2⟩ := zOne_c c_27
      obtain ⟨hq1, hq2⟩ := zOne_c c_33
      have hz1 := zfs_lt hO hk1 ho1
      have hz2 := zfs_lt hQ hk1 hq1
      refine lv_aload_n hx hb dX6_leaf_36 rfl (lv_at hl 2 rfl) ?_
      refine va_get (D := (dC, dI)) (ci := 3) (v := .ref bf) (C := RX6) (T := TX6) (N := 19) hx hb hts hinX6 hown hK hP 0 rfl rfl 11 (by decide) (hts (.fieldLink RX6 32 "RoyalUrTableModel" "forty" "[I") (List.mem_of_getElem? (i := 2) rfl)) (fun _ h9 => h9) rfl dX6_leaf_37 ?_
      refine lv_bipush (v := 15) hx hb dX6_leaf_40 (by decide) ?_
      refine lv_iload_n hx hb dX6_leaf_42 rfl (lv_at hl 1 rfl) ?_
      refine zz_i (y := nI (zfs own 0 15)) ho2 ?_
      refine lv_imul hx hb dX6_leaf_43 ?_
      refine zz_i (y := nI (15 * (zfs own 0 15))) (pk_mul 15 (zfs own 0 15)) ?_
      refine lv_iload hx hb dX6_leaf_44 (lv_at hl 0 rfl) ?_
      refine zz_i (y := nI (zfs oth 0 15)) hq2 ?_
      refine lv_iadd hx hb dX6_leaf_46 ?_
      refine zz_i (y := nI (15 * (zfs own 0 15) + zfs oth 0 15)) (nI_add (15 * (zfs own 0 15)) (zfs oth 0 15)) ?_
      refine zi_iald hx hb hK hP 2 0 rfl rfl (j := 15 * (zfs own 0 15) + zfs oth 0 15) rfl (by omega) (by decide) dX6_leaf_47 ?_
      refine zz_i (y := nI (zE 40 (zfs own 0 15) (zfs oth 0 15))) (hff _ _ hz1 hz2) ?_
      exact W.iret (v := nI (zE 40 (zfs own 0 15) (zfs oth 0 15))) hx hb hr (fun t ht hW => ⟨⟨_, (), rfl, (by rw [zLf, if_pos ⟨ho1, hq1⟩]), trivial⟩, hS.F ht⟩) hS.2.2 dX6_leaf_48

/-! the law's own methods: numbers, rows of counts -/
def zSc (b L : Nat) (xs : Nat → Int32) (U : State) : Prop := va_X b L xs U U.heap ∧ b < U.heap.size
theorem zB_Sc {b L : Nat} {xs : Nat → Int32} : zB (zSc b L xs) := fun U V hv hh h => ⟨by rw [hh]; exact h.1.moved hv, by rw [hh]; exact h.2⟩
theorem zSc_at {A : Nat → Prop} {b L : Nat} {xs : Nat → Int32} {s : State} {H : Heap} {locs : List Loc} (hX : va_X b L xs s s.heap) (hbl : b < s.heap.size) (hbA : ¬ A b) (hS : va_S A s.heap H locs) : ∀ U : State, U.heap = H → s.vm.Alike U.vm → zSc b L xs U := fun U hU hv => ⟨by rw [hU]; exact (hX.kept (hS.2.1 b hbl hbA)).moved hv, by rw [hU]; exact Nat.lt_of_lt_of_le hbl hS.1⟩
theorem zshr_f {p : Nat} (h : p ≤ 4 ∨ 13 ≤ p) : zshr p = false := by
  rw [zshr]
  rcases h with h | h
  · rw [decide_eq_false (show ¬ 5 ≤ p by omega)]; rfl
  · rw [decide_eq_false (show ¬ p ≤ 12 by omega), Bool.and_false]
theorem zshr_t {p : Nat} (h : ¬ p ≤ 4) (h2 : ¬ 13 ≤ p) : zshr p = true := by
  rw [zshr, decide_eq_true (show 5 ≤ p by omega), decide_eq_true (show p ≤ 12 by omega)]; rfl
theorem zr1 {F : Nat → Int32} {sd own oth p : Nat} (h : zRow F 0 sd own oth) (hp : p < 16) : F (16 * sd + p) = nI (dg own p) := by
  have h9 := h.1 p hp
  rw [Nat.zero_add] at h9; exact h9
theorem zr2 {F : Nat → Int32} {sd own oth p : Nat} (h : zRow F 0 sd own oth) (hp : p < 16) : F (16 * (1 - sd) + p) = nI (dg oth p) := by
  have h9 := h.2 p hp
  rw [Nat.zero_add] at h9; exact h9
theorem zh1 {F : Nat → Int32} {sd n p : Nat} (h : zHf F 0 sd n) (hp : p < 16) : F (16 * sd + p) = nI (dg n p) := by
  have h9 := h p hp
  rw [Nat.zero_add] at h9; exact h9
theorem zl_taken {F : Nat → Int32} {k sd own oth to : Nat} (hsd : sd ≤ 1) (hr : zRow F 0 sd own oth) (hQ : zok k oth) (ht : ztk oth to = true) :
    zRow (upd (upd F (16 * (1 - sd) + to) (nI (dg oth to - 1))) (16 * (1 - sd)) (nI (dg oth 0 + 1))) 0 sd own (if ztk oth to = true then zsh oth to 0 else oth) := by
  obtain ⟨h5, h6, h7⟩ := ztk_spec ht
  have h8 := (zl_half (sd := 1 - sd) (a := to) (b := 0) (by omega) (hr.sw hsd) hQ h7 (by omega) (by omega) (by omega)).sw (by omega)
  rw [show 1 - (1 - sd) = sd by omega] at h8
  rw [if_pos ht]
  exact h8
set_option maxHeartbeats 4000000 in
set_option maxRecDepth 100000 in
theorem c_L_cell (l : Launch) (b L t : Nat) (xs : Nat → Int32) (hL : L ≤ 1000) (ht : t ≤ 1000) : Met l yL_cell wsL_cell ({ frames := 0, cells := 0, slots := 0, locals := 0 }) (va_Pc [.ref b, .int (nI t)] (zSc b L xs)) (va_Qi (fun (_ : Int32) (_ : Unit) => True) (fun _ _ => True) zF) 0 0 zF := by
  refine Met.ofW (cc := cL_cell) (maxL := 2) (ret := (some .int)) (by decide) rfl ?_
  intro p e s m args below meth c s₁ B hml hv
  obtain ⟨rfl, hX⟩ := hv
  have hx := B.exec
  have hb := B.bytes
  have hr := B.returns
  have hts := atoms_spec (ws := wsL_cell) B.pre
  have hown : s.vm.findClass RL = some m.cls := findClass_of_methodNamed B.named
  have hlocks := B.notSynchronized
  have hl := lv_entry ([.ref b, .int (nI t)]) (n := 2) (Nat.le_of_ble_eq_true rfl)
  rw [lg_entry_eq]
  generalize (lg_sl ([.ref b, .int (nI t)]) ++ List.replicate (2 - (lg_sl ([.ref b, .int (nI t)])).length) Slot.unset).toArray = ls at hl ⊢
  have hl : lv_has ls 2 [(0, .ref b), (1, .int (nI t))] := hl
  have hS : va_S zF s.heap s.heap [] := va_S.rf
  refine lv_iload_n hx hb dL_cell_0 rfl (lv_at hl 1 rfl) ?_
  refine lv_aload_n hx hb dL_cell_1 rfl (lv_at hl 0 rfl) ?_
  refine va_slen hx hb hX.1 hX.2 (fun h => h) hS dL_cell_2 ?_
  refine lv_icmp_ge (tgt := 12) hx hb dL_cell_3 (by decide) (fun c_3 => ?_) (fun c_3 => ?_)
  · skip
    have c_3 : L ≤ t := (nI_leI (a := L) (b := t) (by omega) (by omega)).mp c_3
    refine lv_ldc (v := 49711) hx hb hown (hts (.constant RL 7 (49711)) (List.mem_of_getElem? (i := 1) rfl)) dL_cell_12 ?_
    refine lv_iload_n hx hb dL_cell_14 rfl (lv_at hl 1 rfl) ?_
    refine lv_bipush (v := 29) hx hb dL_cell_15 (by decide) ?_
    refine lv_iadd hx hb dL_cell_17 ?_
    refine lv_imul hx hb dL_cell_18 ?_
    refine lv_ldc (v := 2919955) hx hb hown (hts (.constant RL 8 (2919955)) (List.mem_of_getElem? (i := 2) rfl)) dL_cell_19 ?_
    refine lv_iadd hx hb dL_cell_21 ?_
    exact W.iret (v := (49711 * ((nI t) + 29)) + 2919955) hx hb hr (fun t ht hW => ⟨⟨_, (), rfl, trivial, trivial⟩, hS.F ht⟩) hS.2.2 dL_cell_22
  · skip
    have c_3 : ¬ L ≤ t := fun h9 => c_3 ((nI_leI (a := L) (b := t) (by omega) (by omega)).mpr h9)
    refine lv_aload_n hx hb dL_cell_6 rfl (lv_at hl 0 rfl) ?_
    refine lv_iload_n hx hb dL_cell_7 rfl (lv_at hl 1 rfl) ?_
    refine va_sld hx hb hX.1 hX.2 (fun h => h) hS (vp_in_nI (n := t) (by omega) (by omega)) dL_cell_8 ?_
    refine lv_goto (tgt := 22) hx hb dL_cell_9 (by decide) ?_
    exact W.iret (v := xs (nI t).toNatClampNeg) hx hb hr (fun t ht hW => ⟨⟨_, (), rfl, trivial, trivial⟩, hS.F ht⟩) hS.2.2 dL_cell_22

set_option maxHeartbeats 4000000 in
set_option maxRecDepth 100000 in
theorem c_L_low (l : Launch) (v : Int32) (n : Nat) (hn1 : 1 ≤ n) (hn2 : n ≤ 1000)  : Met l yL_low wsL_low ({ frames := 0, cells := 0, slots := 0, locals := 0 }) (va_Pc [.int v, .int (nI n)] (fun _ => True)) (va_Qi (fun (r : Int32) (_ : Unit) => ∃ j, j < n ∧ r = nI j) (fun _ _ => True) zF) 0 0 zF := by
  refine Met.ofW (cc := cL_low) (maxL := 2) (ret := (some .int)) (by decide) rfl ?_
  intro p e s m args below meth c s₁ B hml hv
  obtain ⟨rfl, -⟩ := hv
  have hx := B.exec
  have hb := B.bytes
  have hr := B.returns
  have hts := atoms_spec (ws := wsL_low) B.pre
  have hown : s.vm.findClass RL = some m.cls := findClass_of_methodNamed B.named
  have hlocks := B.notSynchronized
  have hl := lv_entry ([.int v, .int (nI n)]) (n := 2) (Nat.le_of_ble_eq_true rfl)
  rw [lg_entry_eq]
  generalize (lg_sl ([.int v, .int (nI n)]) ++ List.replicate (2 - (lg_sl ([.int v, .int (nI n)])).length) Slot.unset).toArray = ls at hl ⊢
  have hl : lv_has ls 2 [(0, .int v), (1, .int (nI n))] := hl
  have hP : va_P zG0 [] [] s.heap := fun k q h => by simp at h
  have hS : va_S zF s.heap s.heap [] := va_S.rf
  obtain ⟨a9, ha9, rfl⟩ := wb_of32 v
  have hm9 : a9 % 2147483648 < 2147483648 := Nat.mod_lt _ (by decide)
  refine lv_iload_n hx hb dL_low_0 rfl (lv_at hl 0 rfl) ?_
  refine lv_ldc (v := 2147483647) hx hb hown (hts (.constant RL 9 (2147483647)) (List.mem_of_getElem? (i := 1) rfl)) dL_low_1 ?_
  refine lv_iand hx hb dL_low_3 ?_
  refine zz_i (y := nI (a9 % 2147483648)) (fa_mask a9 31) ?_
  refine lv_iload_n hx hb dL_low_4 rfl (lv_at hl 1 rfl) ?_
  refine lv_irem hx hb dL_low_5 (fun h => absurd ((nI_eq (a := n) (b := 0) (by omega) (by omega)).mp h) (by omega)) ?_
  refine zz_i (y := nI (a9 % 2147483648 % n)) (pk_rem (a := a9 % 2147483648) (d := n) hm9 hn1 (by omega)) ?_
  exact W.iret (v := nI (a9 % 2147483648 % n)) hx hb hr (fun t ht hW => ⟨⟨_, (), rfl, ⟨_, Nat.mod_lt _ hn1, rfl⟩, trivial⟩, hS.F ht⟩) hS.2.2 dL_low_6

set_option maxHeartbeats 4000000 in
set_option maxRecDepth 100000 in
theorem c_L_after (l : Launch) (sd to : Nat) (hsd : sd ≤ 1) (hto : to ≤ 1000)  : Met l yL_after wsL_after ({ frames := 0, cells := 0, slots := 0, locals := 0 }) (va_Pc [.int (nI sd), .int (nI to)] (fun _ => True)) (va_Qi (fun (r : Int32) (_ : Unit) => r = nI (if zros to = true then sd else 1 - sd)) (fun _ _ => True) zF) 0 0 zF := by
  refine Met.ofW (cc := cL_after) (maxL := 2) (ret := (some .int)) (by decide) rfl ?_
  intro p e s m args below meth c s₁ B hml hv
  obtain ⟨rfl, -⟩ := hv
  have hx := B.exec
  have hb := B.bytes
  have hr := B.returns
  have hts := atoms_spec (ws := wsL_after) B.pre
  have hown : s.vm.findClass RL = some m.cls := findClass_of_methodNamed B.named
  have hlocks := B.notSynchronized
  have hl := lv_entry ([.int (nI sd), .int (nI to)]) (n := 2) (Nat.le_of_ble_eq_true rfl)
  rw [lg_entry_eq]
  generalize (lg_sl ([.int (nI sd), .int (nI to)]) ++ List.replicate (2 - (lg_sl ([.int (nI sd), .int (nI to)])).length) Slot.unset).toArray = ls at hl ⊢
  have hl : lv_has ls 2 [(0, .int (nI sd)), (1, .int (nI to))] := hl
  have hP : va_P zG0 [] [] s.heap := fun k q h => by simp at h
  have hS : va_S zF s.heap s.heap [] := va_S.rf
  refine lv_iload_n hx hb dL_after_0 rfl (lv_at hl 1 rfl) ?_
  refine lv_iconst (v := 4) hx hb dL_after_1 (by decide) ?_
  refine lv_icmp_eq (tgt := 17) hx hb dL_after_2 (by decide) (fun c_2 => ?_) (fun c_2 => ?_)
  · skip
    have c_2 : to = 4 := (nI_eq (a := to) (b := 4) (by omega) (by omega)).mp c_2
    refine lv_iload_n hx hb dL_after_17 rfl (lv_at hl 0 rfl) ?_
    refine lv_goto (tgt := 24) hx hb dL_after_18 (by decide) ?_
    exact W.iret (v := nI sd) hx hb hr (fun t ht hW => ⟨⟨_, (), rfl, (by rw [if_pos (show zros to = true by simp [zros, c_2])]), trivial⟩, hS.F ht⟩) hS.2.2 dL_after_24
  · skip
    have c_2 : ¬ to = 4 := fun h9 => c_2 ((nI_eq (a := to) (b := 4) (by omega) (by omega)).mpr h9)
    refine lv_iload_n hx hb dL_after_5 rfl (lv_at hl 1 rfl) ?_
    refine lv_bipush (v := 8) hx hb dL_after_6 (by decide) ?_
    refine lv_icmp_eq (tgt := 17) hx hb dL_after_8 (by decide) (fun c_8 => ?_) (fun c_8 => ?_)
    · skip
      have c_8 : to = 8 := (nI_eq (a := to) (b := 8) (by omega) (by omega)).mp c_8
      refine lv_iload_n hx hb dL_after_17 rfl (lv_at hl 0 rfl) ?_
      refine lv_goto (tgt := 24) hx hb dL_after_18 (by decide) ?_
      exact W.iret (v := nI sd) hx hb hr (fun t ht hW => ⟨⟨_, (), rfl, (by rw [if_pos (show zros to = true by simp [zros, c_2, c_8])]), trivial⟩, hS.F ht⟩) hS.2.2 dL_after_24
    · skip
      have c_8 : ¬ to = 8 := fun h9 => c_8 ((nI_eq (a := to) (b := 8) (by omega) (by omega)).mpr h9)
      refine lv_iload_n hx hb dL_after_11 rfl (lv_at hl 1 rfl) ?_
      refine lv_bipush (v := 14) hx hb dL_after_12 (by decide) ?_
      refine lv_icmp_ne (tgt := 21) hx hb dL_after_14 (by decide) (fun c_14 => ?_) (fun c_14 => ?_)
      · skip
        have c_14 : ¬ to = 14 := fun h9 => c_14 ((nI_eq (a := to) (b := 14) (by omega) (by omega)).mpr h9)
        refine lv_iconst (v := 1) hx hb dL_after_21 (by decide) ?_
        refine lv_iload_n hx hb dL_after_22 rfl (lv_at hl 0 rfl) ?_
        refine lv_isub hx hb dL_after_23 ?_
        refine zz_i (y := nI (1 - sd)) (pk_sub (a := 1) (b := sd) (by omega)) ?_
        exact W.iret (v := nI (1 - sd)) hx hb hr (fun t ht hW => ⟨⟨_, (), rfl, (by rw [if_neg (show ¬ zros to = true by simp [zros, c_2, c_8, c_14])]), trivial⟩, hS.F ht⟩) hS.2.2 dL_after_24
      · skip
        have c_14 : to = 14 := (nI_eq (a := to) (b := 14) (by omega) (by omega)).mp c_14
        refine lv_iload_n hx hb dL_after_17 rfl (lv_at hl 0 rfl) ?_
        refine lv_goto (tgt := 24) hx hb dL_after_18 (by decide) ?_
        exact W.iret (v := nI sd) hx hb hr (fun t ht hW => ⟨⟨_, (), rfl, (by rw [if_pos (show zros to = true by simp [zros, c_2, c_8, c_14])]), trivial⟩, hS.F ht⟩) hS.2.2 dL_after_24

set_option maxHeartbeats 4000000 in
set_option maxRecDepth 100000 in
theorem c_L_takes (l : Launch) (dC : Nat → ClassId) (dI : Nat → Nat → Nat) (cyI cyJ : ClassId) (rx : Nat) (F : Nat → Int32) (sd own oth : Nat) (hsd : sd ≤ 1) (hr9 : zRow F 0 sd own oth) (to : Nat) (hto : to ≤ 1000) : Met l yL_takes wsL_takes ({ frames := 0, cells := 0, slots := 0, locals := 0 }) (zPc [.ref rx, .int (nI sd), .int (nI to)] (dC, dI) vwCl [(cyI, .int)] [(rx, .inl (cyI, 32, .inl F))] (fun _ => True)) (va_Qi (fun (r : Int32) (_ : Unit) => r = bI (ztk oth to)) (fun _ _ => True) zF) 0 0 zF := by
  refine Met.ofW (cc := cL_takes) (maxL := 3) (ret := (some .boolean)) (by decide) rfl ?_
  intro p e s m args below meth c s₁ B hml hv
  obtain ⟨rfl, hP, hK, hX⟩ := hv
  have hx := B.exec
  have hb := B.bytes
  have hr := B.returns
  have hts := atoms_spec (ws := wsL_takes) B.pre
  have hown : s.vm.findClass RL = some m.cls := findClass_of_methodNamed B.named
  have hlocks := B.notSynchronized
  have hl := lv_entry ([.ref rx, .int (nI sd), .int (nI to)]) (n := 3) (Nat.le_of_ble_eq_true rfl)
  rw [lg_entry_eq]
  generalize (lg_sl ([.ref rx, .int (nI sd), .int (nI to)]) ++ List.replicate (3 - (lg_sl ([.ref rx, .int (nI sd), .int (nI to)])).length) Slot.unset).toArray = ls at hl ⊢
  have hl : lv_has ls 3 [(0, .ref rx), (1, .int (nI sd)), (2, .int (nI to))] := hl
  have hS : va_S zF s.heap s.heap [] := va_S.rf
  have hg0 := dg_lt oth to
  refine lv_iload_n hx hb dL_takes_0 rfl (lv_at hl 2 rfl) ?_
  refine lv_iconst (v := 4) hx hb dL_takes_1 (by decide) ?_
  refine lv_icmp_le (tgt := 28) hx hb dL_takes_2 (by decide) (fun c_2 => ?_) (fun c_2 => ?_)
  · skip
    have c_2 : to ≤ 4 := (nI_leI (a := to) (b := 4) (by omega) (by omega)).mp c_2
    refine lv_iconst (v := 0) hx hb dL_takes_28 (by decide) ?_
    exact W.zret (v := 0) hx hb hr rfl (fun t ht hW => ⟨⟨_, (), rfl, (bI_f (ztk_n1 (zshr_f (Or.inl c_2)))), trivial⟩, hS.F ht⟩) hS.2.2 dL_takes_29
  · skip
    have c_2 : ¬ to ≤ 4 := fun h9 => c_2 ((nI_leI (a := to) (b := 4) (by omega) (by omega)).mpr h9)
    refine lv_iload_n hx hb dL_takes_5 rfl (lv_at hl 2 rfl) ?_
    refine lv_bipush (v := 13) hx hb dL_takes_6 (by decide) ?_
    refine lv_icmp_ge (tgt := 28) hx hb dL_takes_8 (by decide) (fun c_8 => ?_) (fun c_8 => ?_)
    · skip
      have c_8 : 13 ≤ to := (nI_leI (a := 13) (b := to) (by omega) (by omega)).mp c_8
      refine lv_iconst (v := 0) hx hb dL_takes_28 (by decide) ?_
      exact W.zret (v := 0) hx hb hr rfl (fun t ht hW => ⟨⟨_, (), rfl, (bI_f (ztk_n1 (zshr_f (Or.inr c_8)))), trivial⟩, hS.F ht⟩) hS.2.2 dL_takes_29
    · skip
      have c_8 : ¬ 13 ≤ to := fun h9 => c_8 ((nI_leI (a := 13) (b := to) (by omega) (by omega)).mpr h9)
      refine lv_aload_n hx hb dL_takes_11 rfl (lv_at hl 0 rfl) ?_
      refine lv_bipush (v := 16) hx hb dL_takes_12 (by decide) ?_
      refine lv_iconst (v := 1) hx hb dL_takes_14 (by decide) ?_
      refine lv_iload_n hx hb dL_takes_15 rfl (lv_at hl 1 rfl) ?_
      refine lv_isub hx hb dL_takes_16 ?_
      refine zz_i (y := nI (1 - sd)) (pk_sub (a := 1) (b := sd) (by omega)) ?_
      refine lv_imul hx hb dL_takes_17 ?_
      refine zz_i (y := nI (16 * (1 - sd))) (pk_mul 16 (1 - sd)) ?_
      refine lv_iload_n hx hb dL_takes_18 rfl (lv_at hl 2 rfl) ?_
      refine lv_iadd hx hb dL_takes_19 ?_
      refine zz_i (y := nI (16 * (1 - sd) + to)) (nI_add (16 * (1 - sd)) to) ?_
      refine zi_iald hx hb hK hP 0 0 rfl rfl (j := 16 * (1 - sd) + to) rfl (by omega) (by decide) dL_takes_20 ?_
      refine zz_i (y := nI (dg oth to)) (zr2 hr9 (by omega)) ?_
      refine lv_if_le (tgt := 28) hx hb dL_takes_21 (by decide) (fun c_21 => ?_) (fun c_21 => ?_)
      · skip
        have c_21 : (dg oth to) ≤ 0 := (nI_leI (a := dg oth to) (b := 0) (by omega) (by omega)).mp c_21
        refine lv_iconst (v := 0) hx hb dL_takes_28 (by decide) ?_
        exact W.zret (v := 0) hx hb hr rfl (fun t ht hW => ⟨⟨_, (), rfl, (bI_f (ztk_n2 c_21)), trivial⟩, hS.F ht⟩) hS.2.2 dL_takes_29
      · skip
        have c_21 : ¬ (dg oth to) ≤ 0 := fun h9 => c_21 ((nI_leI (a := dg oth to) (b := 0) (by omega) (by omega)).mpr h9)
        refine lv_iconst (v := 1) hx hb dL_takes_24 (by decide) ?_
        refine lv_goto (tgt := 29) hx hb dL_takes_25 (by decide) ?_
        exact W.zret (v := 1) hx hb hr rfl (fun t ht hW => ⟨⟨_, (), rfl, (bI_t (ztk_y (zshr_t c_2 c_8) c_21)), trivial⟩, hS.F ht⟩) hS.2.2 dL_takes_29

set_option maxHeartbeats 4000000 in
set_option maxRecDepth 100000 in
theorem c_L_can (l : Launch) (dC : Nat → ClassId) (dI : Nat → Nat → Nat) (cyI cyJ : ClassId) (rx : Nat) (F : Nat → Int32) (sd own oth : Nat) (hsd : sd ≤ 1) (hr9 : zRow F 0 sd own oth) (fr mm : Nat) (hfr : fr ≤ 14) (hmm : mm ≤ 4) : Met l yL_can wsL_can ({ frames := 0, cells := 0, slots := 0, locals := 0 }) (zPc [.ref rx, .int (nI sd), .int (nI fr), .int (nI mm)] (dC, dI) vwCl [(cyI, .int)] [(rx, .inl (cyI, 32, .inl F))] (fun _ => True)) (va_Qi (fun (r : Int32) (_ : Unit) => r = bI (zcm own oth fr mm)) (fun _ _ => True) zF) 0 0 zF := by
  refine Met.ofW (cc := cL_can) (maxL := 6) (ret := (some .boolean)) (by decide) rfl ?_
  intro p e s m args below meth c s₁ B hml hv
  obtain ⟨rfl, hP, hK, hX⟩ := hv
  have hx := B.exec
  have hb := B.bytes
  have hr := B.returns
  have hts := atoms_spec (ws := wsL_can) B.pre
  have hown : s.vm.findClass RL = some m.cls := findClass_of_methodNamed B.named
  have hlocks := B.notSynchronized
  have hl := lv_entry ([.ref rx, .int (nI sd), .int (nI fr), .int (nI mm)]) (n := 6) (Nat.le_of_ble_eq_true rfl)
  rw [lg_entry_eq]
  generalize (lg_sl ([.ref rx, .int (nI sd), .int (nI fr), .int (nI mm)]) ++ List.replicate (6 - (lg_sl ([.ref rx, .int (nI sd), .int (nI fr), .int (nI mm)])).length) Slot.unset).toArray = ls at hl ⊢
  have hl : lv_has ls 6 [(0, .ref rx), (1, .int (nI sd)), (2, .int (nI fr)), (3, .int (nI mm))] := hl
  have hS : va_S zF s.heap s.heap [] := va_S.rf
  have hg0 := dg_lt own fr
  have hg1 := dg_lt own (fr + mm)
  have hg2 := dg_lt oth 8
  refine lv_iload_n hx hb dL_can_0 rfl (lv_at hl 2 rfl) ?_
  refine lv_iload_n hx hb dL_can_1 rfl (lv_at hl 3 rfl) ?_
  refine lv_iadd hx hb dL_can_2 ?_
  refine zz_i (y := nI (fr + mm)) (nI_add fr mm) ?_
  refine lv_istore (lv' := [(4, .int (nI (fr + mm))), (0, .ref rx), (1, .int (nI sd)), (2, .int (nI fr)), (3, .int (nI mm))]) hx hb dL_can_3 hl (by decide) rfl (fun ls hl => ?_)
  refine lv_iload_n hx hb dL_can_5 rfl (lv_at hl 4 rfl) ?_
  refine lv_if_le (tgt := 50) hx hb dL_can_6 (by decide) (fun c_6 => ?_) (fun c_6 => ?_)
  · skip
    have c_6 : mm ≤ 0 := (nI_leI (a := mm) (b := 0) (by omega) (by omega)).mp c_6
    refine lv_iconst (v := 0) hx hb dL_can_50 (by decide) ?_
    refine lv_istore (lv' := [(5, .int 0), (4, .int (nI (fr + mm))), (0, .ref rx), (1, .int (nI sd)), (2, .int (nI fr)), (3, .int (nI mm))]) hx hb dL_can_51 hl (by decide) rfl (fun ls hl => ?_)
    refine lv_iload hx hb dL_can_53 (lv_at hl 0 rfl) ?_
    refine lv_if_eq (tgt := 83) hx hb dL_can_55 (by decide) (fun _ => ?_) (fun c9 => absurd c9 (by decide))
    refine lv_iconst (v := 0) hx hb dL_can_83 (by decide) ?_
    exact W.zret (v := 0) hx hb hr rfl (fun t ht hW => ⟨⟨_, (), rfl, (bI_f (zcm_no1 (Or.inl (by omega)))), trivial⟩, hS.F ht⟩) hS.2.2 dL_can_84
  · skip
    have c_6 : ¬ mm ≤ 0 := fun h9 => c_6 ((nI_leI (a := mm) (b := 0) (by omega) (by omega)).mpr h9)
    refine lv_iload hx hb dL_can_9 (lv_at hl 0 rfl) ?_
    refine lv_bipush (v := 15) hx hb dL_can_11 (by decide) ?_
    refine lv_icmp_gt (tgt := 50) hx hb dL_can_13 (by decide) (fun c_13 => ?_) (fun c_13 => ?_)
    · skip
      have c_13 : 15 < (fr + mm) := (nI_ltI (a := 15) (b := fr + mm) (by omega) (by omega)).mp c_13
      refine lv_iconst (v := 0) hx hb dL_can_50 (by decide) ?_
      refine lv_istore (lv' := [(5, .int 0), (4, .int (nI (fr + mm))), (0, .ref rx), (1, .int (nI sd)), (2, .int (nI fr)), (3, .int (nI mm))]) hx hb dL_can_51 hl (by decide) rfl (fun ls hl => ?_)
      refine lv_iload hx hb dL_can_53 (lv_at hl 0 rfl) ?_
      refine lv_if_eq (tgt := 83) hx hb dL_can_55 (by decide) (fun _ => ?_) (fun c9 => absurd c9 (by decide))
      refine lv_iconst (v := 0) hx hb dL_can_83 (by decide) ?_
      exact W.zret (v := 0) hx hb hr rfl (fun t ht hW => ⟨⟨_, (), rfl, (bI_f (zcm_no1 (Or.inr (Or.inl (by omega))))), trivial⟩, hS.F ht⟩) hS.2.2 dL_can_84
    · skip
      have c_13 : ¬ 15 < (fr + mm) := fun h9 => c_13 ((nI_ltI (a := 15) (b := fr + mm) (by omega) (by omega)).mpr h9)
      refine lv_aload_n hx hb dL_can_16 rfl (lv_at hl 1 rfl) ?_
      refine lv_bipush (v := 16) hx hb dL_can_17 (by decide) ?_
      refine lv_iload_n hx hb dL_can_19 rfl (lv_at hl 2 rfl) ?_
      refine lv_imul hx hb dL_can_20 ?_
      refine zz_i (y := nI (16 * sd)) (pk_mul 16 sd) ?_
      refine lv_iload_n hx hb dL_can_21 rfl (lv_at hl 3 rfl) ?_
      refine lv_iadd hx hb dL_can_22 ?_
      refine zz_i (y := nI (16 * sd + fr)) (nI_add (16 * sd) fr) ?_
      refine zi_iald hx hb hK hP 0 0 rfl rfl (j := 16 * sd + fr) rfl (by omega) (by decide) dL_can_23 ?_
      refine zz_i (y := nI (dg own fr)) (zr1 hr9 (by omega)) ?_
      refine lv_if_le (tgt := 50) hx hb dL_can_24 (by decide) (fun c_24 => ?_) (fun c_24 => ?_)
      · skip
        have c_24 : (dg own fr) ≤ 0 := (nI_leI (a := dg own fr) (b := 0) (by omega) (by omega)).mp c_24
        refine lv_iconst (v := 0) hx hb dL_can_50 (by decide) ?_
        refine lv_istore (lv' := [(5, .int 0), (4, .int (nI (fr + mm))), (0, .ref rx), (1, .int (nI sd)), (2, .int (nI fr)), (3, .int (nI mm))]) hx hb dL_can_51 hl (by decide) rfl (fun ls hl => ?_)
        refine lv_iload hx hb dL_can_53 (lv_at hl 0 rfl) ?_
        refine lv_if_eq (tgt := 83) hx hb dL_can_55 (by decide) (fun _ => ?_) (fun c9 => absurd c9 (by decide))
        refine lv_iconst (v := 0) hx hb dL_can_83 (by decide) ?_
        exact W.zret (v := 0) hx hb hr rfl (fun t ht hW => ⟨⟨_, (), rfl, (bI_f (zcm_no1 (Or.inr (Or.inr (by omega))))), trivial⟩, hS.F ht⟩) hS.2.2 dL_can_84
      · skip
        have c_24 : ¬ (dg own fr) ≤ 0 := fun h9 => c_24 ((nI_leI (a := dg own fr) (b := 0) (by omega) (by omega)).mpr h9)
        refine lv_iload hx hb dL_can_27 (lv_at hl 0 rfl) ?_
        refine lv_bipush (v := 15) hx hb dL_can_29 (by decide) ?_
        refine lv_icmp_eq (tgt := 46) hx hb dL_can_31 (by decide) (fun c_31 => ?_) (fun c_31 => ?_)
        · skip
          have c_31 : (fr + mm) = 15 := (nI_eq (a := fr + mm) (b := 15) (by omega) (by omega)).mp c_31
          refine lv_iconst (v := 1) hx hb dL_can_46 (by decide) ?_
          refine lv_goto (tgt := 51) hx hb dL_can_47 (by decide) ?_
          refine lv_istore (lv' := [(5, .int 1), (4, .int (nI (fr + mm))), (0, .ref rx), (1, .int (nI sd)), (2, .int (nI fr)), (3, .int (nI mm))]) hx hb dL_can_51 hl (by decide) rfl (fun ls hl => ?_)
          refine lv_iload hx hb dL_can_53 (lv_at hl 0 rfl) ?_
          refine lv_if_eq (tgt := 83) hx hb dL_can_55 (by decide) (fun c9 => absurd c9 (by decide)) (fun _ => ?_)
          refine lv_iload hx hb dL_can_58 (lv_at hl 1 rfl) ?_
          refine lv_bipush (v := 8) hx hb dL_can_60 (by decide) ?_
          refine lv_icmp_ne (tgt := 79) hx hb dL_can_62 (by decide) (fun c_62 => ?_) (fun c_62 => ?_)
          · skip
            have c_62 : ¬ (fr + mm) = 8 := fun h9 => c_62 ((nI_eq (a := fr + mm) (b := 8) (by omega) (by omega)).mpr h9)
            refine lv_iconst (v := 1) hx hb dL_can_79 (by decide) ?_
            refine lv_goto (tgt := 84) hx hb dL_can_80 (by decide) ?_
            exact W.zret (v := 1) hx hb hr rfl (fun t ht hW => ⟨⟨_, (), rfl, (bI_t (zcm_15 (by omega) (by omega) (by omega))), trivial⟩, hS.F ht⟩) hS.2.2 dL_can_84
          · skip
            have c_62 : (fr + mm) = 8 := (nI_eq (a := fr + mm) (b := 8) (by omega) (by omega)).mp c_62
            refine lv_aload_n hx hb dL_can_65 rfl (lv_at hl 2 rfl) ?_
            refine lv_bipush (v := 16) hx hb dL_can_66 (by decide) ?_
            refine lv_iconst (v := 1) hx hb dL_can_68 (by decide) ?_
            refine lv_iload_n hx hb dL_can_69 rfl (lv_at hl 3 rfl) ?_
            refine lv_isub hx hb dL_can_70 ?_
            refine zz_i (y := nI (1 - sd)) (pk_sub (a := 1) (b := sd) (by omega)) ?_
            refine lv_imul hx hb dL_can_71 ?_
            refine zz_i (y := nI (16 * (1 - sd))) (pk_mul 16 (1 - sd)) ?_
            refine lv_bipush (v := 8) hx hb dL_can_72 (by decide) ?_
            refine lv_iadd hx hb dL_can_74 ?_
            refine zz_i (y := nI (16 * (1 - sd) + 8)) (nI_add (16 * (1 - sd)) 8) ?_
            refine zi_iald hx hb hK hP 0 0 rfl rfl (j := 16 * (1 - sd) + 8) rfl (by omega) (by decide) dL_can_75 ?_
            refine zz_i (y := nI (dg oth 8)) (zr2 hr9 (by omega)) ?_
            refine lv_if_ne (tgt := 83) hx hb dL_can_76 (by decide) (fun c_76 => ?_) (fun c_76 => ?_)
            · skip
              have c_76 : ¬ (dg oth 8) = 0 := fun h9 => c_76 ((nI_eq (a := dg oth 8) (b := 0) (by omega) (by omega)).mpr h9)
              refine lv_iconst (v := 0) hx hb dL_can_83 (by decide) ?_
              exact W.zret (v := 0) hx hb hr rfl (fun t ht hW => ⟨⟨_, (), rfl, (bI_f (by rw [zcm_8 (by omega) (by omega) (by omega) c_62, decide_eq_false c_76])), trivial⟩, hS.F ht⟩) hS.2.2 dL_can_84
            · skip
              have c_76 : (dg oth 8) = 0 := (nI_eq (a := dg oth 8) (b := 0) (by omega) (by omega)).mp c_76
              refine lv_iconst (v := 1) hx hb dL_can_79 (by decide) ?_
              refine lv_goto (tgt := 84) hx hb dL_can_80 (by decide) ?_
              exact W.zret (v := 1) hx hb hr rfl (fun t ht hW => ⟨⟨_, (), rfl, (bI_t (zcm_15 (by omega) (by omega) (by omega))), trivial⟩, hS.F ht⟩) hS.2.2 dL_can_84
        · skip
          have c_31 : ¬ (fr + mm) = 15 := fun h9 => c_31 ((nI_eq (a := fr + mm) (b := 15) (by omega) (by omega)).mpr h9)
          refine lv_aload_n hx hb dL_can_34 rfl (lv_at hl 1 rfl) ?_
          refine lv_bipush (v := 16) hx hb dL_can_35 (by decide) ?_
          refine lv_iload_n hx hb dL_can_37 rfl (lv_at hl 2 rfl) ?_
          refine lv_imul hx hb dL_can_38 ?_
          refine zz_i (y := nI (16 * sd)) (pk_mul 16 sd) ?_
          refine lv_iload hx hb dL_can_39 (lv_at hl 0 rfl) ?_
          refine lv_iadd hx hb dL_can_41 ?_
          refine zz_i (y := nI (16 * sd + (fr + mm))) (nI_add (16 * sd) (fr + mm)) ?_
          refine zi_iald hx hb hK hP 0 0 rfl rfl (j := 16 * sd + (fr + mm)) rfl (by omega) (by decide) dL_can_42 ?_
          refine zz_i (y := nI (dg own (fr + mm))) (zr1 hr9 (by omega)) ?_
          refine lv_if_ne (tgt := 50) hx hb dL_can_43 (by decide) (fun c_43 => ?_) (fun c_43 => ?_)
          · skip
            have c_43 : ¬ (dg own (fr + mm)) = 0 := fun h9 => c_43 ((nI_eq (a := dg own (fr + mm)) (b := 0) (by omega) (by omega)).mpr h9)
            refine lv_iconst (v := 0) hx hb dL_can_50 (by decide) ?_
            refine lv_istore (lv' := [(5, .int 0), (4, .int (nI (fr + mm))), (0, .ref rx), (1, .int (nI sd)), (2, .int (nI fr)), (3, .int (nI mm))]) hx hb dL_can_51 hl (by decide) rfl (fun ls hl => ?_)
            refine lv_iload hx hb dL_can_53 (lv_at hl 0 rfl) ?_
            refine lv_if_eq (tgt := 83) hx hb dL_can_55 (by decide) (fun _ => ?_) (fun c9 => absurd c9 (by decide))
            refine lv_iconst (v := 0) hx hb dL_can_83 (by decide) ?_
            exact W.zret (v := 0) hx hb hr rfl (fun t ht hW => ⟨⟨_, (), rfl, (bI_f (zcm_own (by omega) (by omega))), trivial⟩, hS.F ht⟩) hS.2.2 dL_can_84
          · skip
            have c_43 : (dg own (fr + mm)) = 0 := (nI_eq (a := dg own (fr + mm)) (b := 0) (by omega) (by omega)).mp c_43
            refine lv_iconst (v := 1) hx hb dL_can_46 (by decide) ?_
            refine lv_goto (tgt := 51) hx hb dL_can_47 (by decide) ?_
            refine lv_istore (lv' := [(5, .int 1), (4, .int (nI (fr + mm))), (0, .ref rx), (1, .int (nI sd)), (2, .int (nI fr)), (3, .int (nI mm))]) hx hb dL_can_51 hl (by decide) rfl (fun ls hl => ?_)
            refine lv_iload hx hb dL_can_53 (lv_at hl 0 rfl) ?_
            refine lv_if_eq (tgt := 83) hx hb dL_can_55 (by decide) (fun c9 => absurd c9 (by decide)) (fun _ => ?_)
            refine lv_iload hx hb dL_can_58 (lv_at hl 1 rfl) ?_
            refine lv_bipush (v := 8) hx hb dL_can_60 (by decide) ?_
            refine lv_icmp_ne (tgt := 79) hx hb dL_can_62 (by decide) (fun c_62 => ?_) (fun c_62 => ?_)
            · skip
              have c_62 : ¬ (fr + mm) = 8 := fun h9 => c_62 ((nI_eq (a := fr + mm) (b := 8) (by omega) (by omega)).mpr h9)
              refine lv_iconst (v := 1) hx hb dL_can_79 (by decide) ?_
              refine lv_goto (tgt := 84) hx hb dL_can_80 (by decide) ?_
              exact W.zret (v := 1) hx hb hr rfl (fun t ht hW => ⟨⟨_, (), rfl, (bI_t (zcm_n8 (by omega) (by omega) (by omega) (by omega) c_62)), trivial⟩, hS.F ht⟩) hS.2.2 dL_can_84
            · skip
              have c_62 : (fr + mm) = 8 := (nI_eq (a := fr + mm) (b := 8) (by omega) (by omega)).mp c_62
              refine lv_aload_n hx hb dL_can_65 rfl (lv_at hl 2 rfl) ?_
              refine lv_bipush (v := 16) hx hb dL_can_66 (by decide) ?_
              refine lv_iconst (v := 1) hx hb dL_can_68 (by decide) ?_
              refine lv_iload_n hx hb dL_can_69 rfl (lv_at hl 3 rfl) ?_
              refine lv_isub hx hb dL_can_70 ?_
              refine zz_i (y := nI (1 - sd)) (pk_sub (a := 1) (b := sd) (by omega)) ?_
              refine lv_imul hx hb dL_can_71 ?_
              refine zz_i (y := nI (16 * (1 - sd))) (pk_mul 16 (1 - sd)) ?_
              refine lv_bipush (v := 8) hx hb dL_can_72 (by decide) ?_
              refine lv_iadd hx hb dL_can_74 ?_
              refine zz_i (y := nI (16 * (1 - sd) + 8)) (nI_add (16 * (1 - sd)) 8) ?_
              refine zi_iald hx hb hK hP 0 0 rfl rfl (j := 16 * (1 - sd) + 8) rfl (by omega) (by decide) dL_can_75 ?_
              refine zz_i (y := nI (dg oth 8)) (zr2 hr9 (by omega)) ?_
              refine lv_if_ne (tgt := 83) hx hb dL_can_76 (by decide) (fun c_76 => ?_) (fun c_76 => ?_)
              · skip
                have c_76 : ¬ (dg oth 8) = 0 := fun h9 => c_76 ((nI_eq (a := dg oth 8) (b := 0) (by omega) (by omega)).mpr h9)
                refine lv_iconst (v := 0) hx hb dL_can_83 (by decide) ?_
                exact W.zret (v := 0) hx hb hr rfl (fun t ht hW => ⟨⟨_, (), rfl, (bI_f (by rw [zcm_8 (by omega) (by omega) (by omega) c_62, decide_eq_false c_76])), trivial⟩, hS.F ht⟩) hS.2.2 dL_can_84
              · skip
                have c_76 : (dg oth 8) = 0 := (nI_eq (a := dg oth 8) (b := 0) (by omega) (by omega)).mp c_76
                refine lv_iconst (v := 1) hx hb dL_can_79 (by decide) ?_
                refine lv_goto (tgt := 84) hx hb dL_can_80 (by decide) ?_
                exact W.zret (v := 1) hx hb hr rfl (fun t ht hW => ⟨⟨_, (), rfl, (bI_t (by rw [zcm_8 (by omega) (by omega) (by omega) c_62, decide_eq_true c_76])), trivial⟩, hS.F ht⟩) hS.2.2 dL_can_84

set_option maxHeartbeats 4000000 in
set_option maxRecDepth 100000 in
theorem c_L_progress (l : Launch) (dC : Nat → ClassId) (dI : Nat → Nat → Nat) (cyI cyJ : ClassId) (rx : Nat) (F : Nat → Int32) (sd n : Nat) (hsd : sd ≤ 1) (hr9 : zHf F 0 sd n) : Met l yL_progress wsL_progress ({ frames := 0, cells := 0, slots := 0, locals := 0 }) (zPc [.ref rx, .int (nI sd)] (dC, dI) vwCl [(cyI, .int)] [(rx, .inl (cyI, 32, .inl F))] (fun _ => True)) (va_Qi (fun (r : Int32) (_ : Unit) => r = nI (psum n 16)) (fun _ _ => True) zF) 0 0 zF := by
  refine Met.ofW (cc := cL_progress) (maxL := 4) (ret := (some .int)) (by decide) rfl ?_
  intro p e s m args below meth c s₁ B hml hv
  obtain ⟨rfl, hP, hK, hX⟩ := hv
  have hx := B.exec
  have hb := B.bytes
  have hr := B.returns
  have hts := atoms_spec (ws := wsL_progress) B.pre
  have hown : s.vm.findClass RL = some m.cls := findClass_of_methodNamed B.named
  have hlocks := B.notSynchronized
  have hl := lv_entry ([.ref rx, .int (nI sd)]) (n := 4) (Nat.le_of_ble_eq_true rfl)
  rw [lg_entry_eq]
  generalize (lg_sl ([.ref rx, .int (nI sd)]) ++ List.replicate (4 - (lg_sl ([.ref rx, .int (nI sd)])).length) Slot.unset).toArray = ls at hl ⊢
  have hl : lv_has ls 4 [(0, .ref rx), (1, .int (nI sd))] := hl
  have hS : va_S zF s.heap s.heap [] := va_S.rf
  generalize hQe : MQ below _ _ _ _ _ _ = Q
  refine lv_iconst (v := 0) hx hb dL_progress_0 (by decide) ?_
  refine lv_istore_n (lv' := [(2, .int 0), (0, .ref rx), (1, .int (nI sd))]) hx hb dL_progress_1 rfl hl (by decide) rfl (fun ls hl => ?_)
  refine lv_iconst (v := 1) hx hb dL_progress_2 (by decide) ?_
  refine lv_istore_n (lv' := [(3, .int 1), (2, .int 0), (0, .ref rx), (1, .int (nI sd))]) hx hb dL_progress_3 rfl hl (by decide) rfl (fun ls hl => ?_)
  have lp : ∀ (n9 : Nat) (i : Nat) (sv : Int32), 1 ≤ i → i ≤ 16 → sv = nI (psum n i) → 16 - i < n9 → ∀ (H : Heap) (locs : List Loc), va_P (dC, dI) vwCl [(rx, .inl (cyI, 32, .inl F))] H → va_S zF s.heap H locs → ∀ ls : Array Slot, lv_has ls 4 [(3, .int (nI i)), (2, .int sv), (0, .ref rx), (1, .int (nI sd))] → W p l e (headSpec wsL_progress ({ frames := 0, cells := 0, slots := 0, locals := 0 })).room s m ([.ref rx, .int (nI sd)] : List Value).toArray below meth c H locs 0 0 Q (F0 m 4 ls []) := by
    intro n9
    induction n9 with
    | zero => intro i sv hi1 hi2 hsv hm9; exact absurd hm9 (Nat.not_lt_zero _)
    | succ n9 ih4 =>
      intro i sv hi1 hi2 hsv hm9 H locs hP hS ls hl
      refine lv_iload_n hx hb dL_progress_4 rfl (lv_at hl 0 rfl) ?_
      refine lv_bipush (v := 16) hx hb dL_progress_5 (by decide) ?_
      refine lv_icmp_ge (tgt := 29) hx hb dL_progress_7 (by decide) (fun c_7 => ?_) (fun c_7 => ?_)
      · skip
        have c_7 : 16 ≤ i := (nI_leI (a := 16) (b := i) (by omega) (by omega)).mp c_7
        refine lv_iload_n hx hb dL_progress_29 rfl (lv_at hl 1 rfl) ?_
        subst hQe
        exact W.iret (v := sv) hx hb hr (fun t ht hW => ⟨⟨_, (), rfl, (by rw [hsv, show i = 16 by omega]), trivial⟩, hS.F ht⟩) hS.2.2 dL_progress_30
      · skip
        have c_7 : ¬ 16 ≤ i := fun h9 => c_7 ((nI_leI (a := 16) (b := i) (by omega) (by omega)).mpr h9)
        refine lv_iload_n hx hb dL_progress_10 rfl (lv_at hl 1 rfl) ?_
        refine lv_iload_n hx hb dL_progress_11 rfl (lv_at hl 0 rfl) ?_
        refine lv_aload_n hx hb dL_progress_12 rfl (lv_at hl 2 rfl) ?_
        refine lv_bipush (v := 16) hx hb dL_progress_13 (by decide) ?_
        refine lv_iload_n hx hb dL_progress_15 rfl (lv_at hl 3 rfl) ?_
        refine lv_imul hx hb dL_progress_16 ?_
        refine zz_i (y := nI (16 * sd)) (pk_mul 16 sd) ?_
        refine lv_iload_n hx hb dL_progress_17 rfl (lv_at hl 0 rfl) ?_
        refine lv_iadd hx hb dL_progress_18 ?_
        refine zz_i (y := nI (16 * sd + i)) (nI_add (16 * sd) i) ?_
        refine zi_iald hx hb hK hP 0 0 rfl rfl (j := 16 * sd + i) rfl (by omega) (by decide) dL_progress_19 ?_
        refine zz_i (y := nI (dg n i)) (zh1 hr9 (by omega)) ?_
        refine lv_imul hx hb dL_progress_20 ?_
        refine zz_i (y := nI (i * (dg n i))) (pk_mul i (dg n i)) ?_
        refine lv_iadd hx hb dL_progress_21 ?_
        refine zz_i (y := nI (psum n (i + 1))) (by rw [hsv, nI_add]; rfl) ?_
        refine lv_istore_n (lv' := [(2, .int (nI (psum n (i + 1)))), (3, .int (nI i)), (0, .ref rx), (1, .int (nI sd))]) hx hb dL_progress_22 rfl hl (by decide) rfl (fun ls hl => ?_)
        refine lv_iinc (v := nI (i + 1)) (lv' := [(3, .int (nI (i + 1))), (2, .int (nI (psum n (i + 1)))), (0, .ref rx), (1, .int (nI sd))]) hx hb dL_progress_23 hl (k := 1) rfl (nI_1 i) (by decide) rfl (fun ls hl => ?_)
        refine lv_goto (tgt := 4) hx hb dL_progress_26 (by decide) ?_
        exact ih4 (i + 1) _ (by omega) (by omega) rfl (by omega) _ _ hP hS _ (lv_sub hl [0, 1, 2, 3] rfl)
  exact lp 17 1 0 (by omega) (by omega) (by simp [psum]; rfl) (by omega) _ _ hP hS _ (lv_sub hl [0, 1, 2, 3] rfl)

set_option maxHeartbeats 4000000 in
set_option maxRecDepth 100000 in
theorem c_L_copy (l : Launch) (dC : Nat → ClassId) (dI : Nat → Nat → Nat) (cyI cyJ : ClassId) (rx ry : Nat) (F G : Nat → Int32) (hnd : [rx, ry].Nodup) : Met l yL_copy wsL_copy ({ frames := 0, cells := 0, slots := 0, locals := 0 }) (zPc [.ref rx, .ref ry] (dC, dI) vwCl [(cyI, .int)] [(rx, .inl (cyI, 32, .inl F)), (ry, .inl (cyI, 32, .inl G))] (fun _ => True)) (va_Qv (fun (u : Nat → Int32) => ∀ q, q < 32 → u q = F q) (fun (u : Nat → Int32) t => va_P (dC, dI) vwCl ([(rx, .inl (cyI, 32, .inl F)), (ry, .inl (cyI, 32, .inl u))]) t.heap) (zA [rx, ry])) 0 0 (zA [rx, ry]) := by
  refine Met.ofW (cc := cL_copy) (maxL := 3) (ret := none) (by decide) rfl ?_
  intro p e s m args below meth c s₁ B hml hv
  obtain ⟨rfl, hP, hK, hX⟩ := hv
  have hx := B.exec
  have hb := B.bytes
  have hr := B.returns
  have hts := atoms_spec (ws := wsL_copy) B.pre
  have hown : s.vm.findClass RL = some m.cls := findClass_of_methodNamed B.named
  have hlocks := B.notSynchronized
  have hl := lv_entry ([.ref rx, .ref ry]) (n := 3) (Nat.le_of_ble_eq_true rfl)
  rw [lg_entry_eq]
  generalize (lg_sl ([.ref rx, .ref ry]) ++ List.replicate (3 - (lg_sl ([.ref rx, .ref ry])).length) Slot.unset).toArray = ls at hl ⊢
  have hl : lv_has ls 3 [(0, .ref rx), (1, .ref ry)] := hl
  have hS : va_S (zA [rx, ry]) s.heap s.heap [] := va_S.rf
  have hDD : zD (zA [rx, ry]) [rx, ry] := ⟨hnd, fun _ h => h⟩
  generalize hQe : MQ below _ _ _ _ _ _ = Q
  refine lv_iconst (v := 0) hx hb dL_copy_0 (by decide) ?_
  refine lv_istore_n (lv' := [(2, .int 0), (0, .ref rx), (1, .ref ry)]) hx hb dL_copy_1 rfl hl (by decide) rfl (fun ls hl => ?_)
  have lp : ∀ (n9 : Nat) (i : Nat) (g : Nat → Int32), i ≤ 32 → (∀ q, q < i → g q = F q) → 32 - i < n9 → ∀ (H : Heap) (locs : List Loc), va_P (dC, dI) vwCl [(rx, .inl (cyI, 32, .inl F)), (ry, .inl (cyI, 32, .inl g))] H → va_S (zA [rx, ry]) s.heap H locs → ∀ ls : Array Slot, lv_has ls 3 [(2, .int (nI i)), (0, .ref rx), (1, .ref ry)] → W p l e (headSpec wsL_copy ({ frames := 0, cells := 0, slots := 0, locals := 0 })).room s m ([.ref rx, .ref ry] : List Value).toArray below meth c H locs 0 0 Q (F0 m 2 ls []) := by
    intro n9
    induction n9 with
    | zero => intro i g hi2 hg1 hm9; exact absurd hm9 (Nat.not_lt_zero _)
    | succ n9 ih2 =>
      intro i g hi2 hg1 hm9 H locs hP hS ls hl
      refine lv_iload_n hx hb dL_copy_2 rfl (lv_at hl 0 rfl) ?_
      refine lv_bipush (v := 32) hx hb dL_copy_3 (by decide) ?_
      refine lv_icmp_ge (tgt := 20) hx hb dL_copy_5 (by decide) (fun c_5 => ?_) (fun c_5 => ?_)
      · skip
        have c_5 : 32 ≤ i := (nI_leI (a := 32) (b := i) (by omega) (by omega)).mp c_5
        subst hQe
        exact W.vret hx hb hr (fun t ht hW => ⟨⟨g, rfl, (fun q hq => hg1 q (by omega)), zh ht hP⟩, hS.F ht⟩) hS.2.2 dL_copy_20
      · skip
        have c_5 : ¬ 32 ≤ i := fun h9 => c_5 ((nI_leI (a := 32) (b := i) (by omega) (by omega)).mpr h9)
        refine lv_aload_n hx hb dL_copy_8 rfl (lv_at hl 2 rfl) ?_
        refine lv_iload_n hx hb dL_copy_9 rfl (lv_at hl 0 rfl) ?_
        refine lv_aload_n hx hb dL_copy_10 rfl (lv_at hl 1 rfl) ?_
        refine lv_iload_n hx hb dL_copy_11 rfl (lv_at hl 0 rfl) ?_
        refine zi_iald hx hb hK hP 0 0 rfl rfl (j := i) rfl (by omega) (by decide) dL_copy_12 ?_
        refine zi_iast hx hb hK hP hDD hS 1 0 rfl rfl (j := i) rfl (by omega) (by decide) dL_copy_13 (fun H locs hP hS => ?_)
        have hP : va_P (dC, dI) vwCl [(rx, .inl (cyI, 32, .inl F)), (ry, .inl (cyI, 32, .inl (upd g i (F i))))] H := hP
        refine lv_iinc (v := nI (i + 1)) (lv' := [(2, .int (nI (i + 1))), (0, .ref rx), (1, .ref ry)]) hx hb dL_copy_14 hl (k := 0) rfl (nI_1 i) (by decide) rfl (fun ls hl => ?_)
        refine lv_goto (tgt := 2) hx hb dL_copy_17 (by decide) ?_
        exact ih2 (i + 1) _ (by omega) (zcp_0 hg1 rfl) (by omega) _ _ hP hS _ (lv_sub hl [0, 1, 2] rfl)
  exact lp 33 0 G (by omega) (fun _ h => absurd h (Nat.not_lt_zero _)) (by omega) _ _ hP hS _ (lv_sub hl [0, 1, 2] rfl)

set_option maxHeartbeats 4000000 in
set_option maxRecDepth 100000 in
theorem c_L_shift (l : Launch) (dC : Nat → ClassId) (dI : Nat → Nat → Nat) (cyI cyJ : ClassId) (rx : Nat) (F : Nat → Int32) (k sd own oth fr mm : Nat) (hsd : sd ≤ 1) (hr9 : zRow F 0 sd own oth) (hO : zok k own) (hQ : zok k oth) (hc : zcm own oth fr mm = true) (hnd : [rx].Nodup) : Met l yL_shift wsL_shift ({ frames := 1, cells := 0, slots := 0, locals := 22 }) (zPc [.ref rx, .int (nI sd), .int (nI fr), .int (nI mm)] (dC, dI) vwCl [(cyI, .int)] [(rx, .inl (cyI, 32, .inl F))] (fun _ => True)) (va_Qv (fun (u : Nat → Int32) => zRow u 0 sd (zsh own fr (fr + mm)) (if ztk oth (fr + mm) = true then zsh oth (fr + mm) 0 else oth)) (fun (u : Nat → Int32) t => va_P (dC, dI) vwCl ([(rx, .inl (cyI, 32, .inl u))]) t.heap) (zA [rx])) 0 0 (zA [rx]) := by
  refine Met.ofW (cc := cL_shift) (maxL := 5) (ret := none) (by decide) rfl ?_
  intro p e s m args below meth c s₁ B hml hv
  obtain ⟨rfl, hP, hK, hX⟩ := hv
  have hx := B.exec
  have hb := B.bytes
  have hr := B.returns
  have hts := atoms_spec (ws := wsL_shift) B.pre
  have hown : s.vm.findClass RL = some m.cls := findClass_of_methodNamed B.named
  have hlocks := B.notSynchronized
  have hl := lv_entry ([.ref rx, .int (nI sd), .int (nI fr), .int (nI mm)]) (n := 5) (Nat.le_of_ble_eq_true rfl)
  rw [lg_entry_eq]
  generalize (lg_sl ([.ref rx, .int (nI sd), .int (nI fr), .int (nI mm)]) ++ List.replicate (5 - (lg_sl ([.ref rx, .int (nI sd), .int (nI fr), .int (nI mm)])).length) Slot.unset).toArray = ls at hl ⊢
  have hl : lv_has ls 5 [(0, .ref rx), (1, .int (nI sd)), (2, .int (nI fr)), (3, .int (nI mm))] := hl
  have hS : va_S (zA [rx]) s.heap s.heap [] := va_S.rf
  have hDD : zD (zA [rx]) [rx] := ⟨hnd, fun _ h => h⟩
  obtain ⟨hm0, hd0, hto⟩ := zcm_spec hc
  have hg0 := zok_dg hO fr (by omega)
  have hg1 := zok_dg hO (fr + mm) hto
  have hg2 := zok_dg hQ (fr + mm) hto
  have hg3 := zok_dg hQ 0 (by omega)
  refine lv_iload_n hx hb dL_shift_0 rfl (lv_at hl 2 rfl) ?_
  refine lv_iload_n hx hb dL_shift_1 rfl (lv_at hl 3 rfl) ?_
  refine lv_iadd hx hb dL_shift_2 ?_
  refine zz_i (y := nI (fr + mm)) (nI_add fr mm) ?_
  refine lv_istore (lv' := [(4, .int (nI (fr + mm))), (0, .ref rx), (1, .int (nI sd)), (2, .int (nI fr)), (3, .int (nI mm))]) hx hb dL_shift_3 hl (by decide) rfl (fun ls hl => ?_)
  refine lv_aload_n hx hb dL_shift_5 rfl (lv_at hl 1 rfl) ?_
  refine lv_iload_n hx hb dL_shift_6 rfl (lv_at hl 2 rfl) ?_
  refine lv_iload hx hb dL_shift_7 (lv_at hl 0 rfl) ?_
  refine zro_i (va_runS (As := [.ref rx, .int (nI sd), .int (nI (fr + mm))]) (rest := []) ⟨hx, hb, hml, hown, hts⟩ (c_L_takes l dC dI cyI cyJ rx F sd own oth (by omega) hr9 (fr + mm) (by omega)) (va_cwS 3 hts gL_shift_L_takes rfl rfl rfl (by decide +kernel) ⟨Nat.le_of_ble_eq_true rfl, Nat.le_of_ble_eq_true rfl⟩) (zPc_S zB_T hP hK [0] rfl (fun _ _ _ => trivial)) rfl rfl hl.1 rfl (lv_room (Nat.le_of_ble_eq_true rfl)) dL_shift_9 ⟨Nat.zero_le _, Nat.zero_le _⟩) hP hS (fun H locs hP hS => ?_)
  refine lv_if_eq (tgt := 42) hx hb dL_shift_12 (by decide) (fun c_12 => ?_) (fun c_12 => ?_)
  · skip
    have c_12 := bI_0.mp c_12
    have hr8 : zRow F 0 sd own (if ztk oth (fr + mm) = true then zsh oth (fr + mm) 0 else oth) := by rw [if_neg (by rw [c_12]; decide)]; exact hr9
    refine lv_aload_n hx hb dL_shift_42 rfl (lv_at hl 1 rfl) ?_
    refine lv_bipush (v := 16) hx hb dL_shift_43 (by decide) ?_
    refine lv_iload_n hx hb dL_shift_45 rfl (lv_at hl 2 rfl) ?_
    refine lv_imul hx hb dL_shift_46 ?_
    refine zz_i (y := nI (16 * sd)) (pk_mul 16 sd) ?_
    refine lv_iload_n hx hb dL_shift_47 rfl (lv_at hl 3 rfl) ?_
    refine lv_iadd hx hb dL_shift_48 ?_
    refine zz_i (y := nI (16 * sd + fr)) (nI_add (16 * sd) fr) ?_
    refine lv_dup2_11 hx hb dL_shift_49 rfl rfl ?_
    refine zi_iald hx hb hK hP 0 0 rfl rfl (j := 16 * sd + fr) rfl (by omega) (by decide) dL_shift_50 ?_
    refine zz_i (y := nI (dg own fr)) (zr1 hr8 (by omega)) ?_
    refine lv_iconst (v := 1) hx hb dL_shift_51 (by decide) ?_
    refine lv_isub hx hb dL_shift_52 ?_
    refine zz_i (y := nI (dg own fr - 1)) (pk_sub (a := dg own fr) (b := 1) (by omega)) ?_
    refine zi_iast hx hb hK hP hDD hS 0 0 rfl rfl (j := 16 * sd + fr) rfl (by omega) (by decide) dL_shift_53 (fun H locs hP hS => ?_)
    have hP : va_P (dC, dI) vwCl [(rx, .inl (cyI, 32, .inl (upd F (16 * sd + fr) (nI (dg own fr - 1)))))] H := hP
    refine lv_aload_n hx hb dL_shift_54 rfl (lv_at hl 1 rfl) ?_
    refine lv_bipush (v := 16) hx hb dL_shift_55 (by decide) ?_
    refine lv_iload_n hx hb dL_shift_57 rfl (lv_at hl 2 rfl) ?_
    refine lv_imul hx hb dL_shift_58 ?_
    refine zz_i (y := nI (16 * sd)) (pk_mul 16 sd) ?_
    refine lv_iload hx hb dL_shift_59 (lv_at hl 0 rfl) ?_
    refine lv_iadd hx hb dL_shift_61 ?_
    refine zz_i (y := nI (16 * sd + (fr + mm))) (nI_add (16 * sd) (fr + mm)) ?_
    refine lv_dup2_11 hx hb dL_shift_62 rfl rfl ?_
    refine zi_iald hx hb hK hP 0 0 rfl rfl (j := 16 * sd + (fr + mm)) rfl (by omega) (by decide) dL_shift_63 ?_
    refine zz_i (y := nI (dg own (fr + mm))) (by rw [pk_un (by omega)]; exact zr1 hr8 (by omega)) ?_
    refine lv_iconst (v := 1) hx hb dL_shift_64 (by decide) ?_
    refine lv_iadd hx hb dL_shift_65 ?_
    refine zz_i (y := nI (dg own (fr + mm) + 1)) (nI_add (dg own (fr + mm)) 1) ?_
    refine zi_iast hx hb hK hP hDD hS 0 0 rfl rfl (j := 16 * sd + (fr + mm)) rfl (by omega) (by decide) dL_shift_66 (fun H locs hP hS => ?_)
    have hP : va_P (dC, dI) vwCl [(rx, .inl (cyI, 32, .inl (upd (upd F (16 * sd + fr) (nI (dg own fr - 1))) (16 * sd + (fr + mm)) (nI (dg own (fr + mm) + 1)))))] H := hP
    exact W.vret hx hb hr (fun t ht hW => ⟨⟨(upd (upd F (16 * sd + fr) (nI (dg own fr - 1))) (16 * sd + (fr + mm)) (nI (dg own (fr + mm) + 1))), rfl, (zl_half hsd hr8 hO hd0 (by omega) hto (by omega)), zh ht hP⟩, hS.F ht⟩) hS.2.2 dL_shift_67
  · skip
    have c_12 := bI_1.mp c_12
    obtain ⟨h5, h6, h7⟩ := ztk_spec c_12
    refine lv_aload_n hx hb dL_shift_15 rfl (lv_at hl 1 rfl) ?_
    refine lv_bipush (v := 16) hx hb dL_shift_16 (by decide) ?_
    refine lv_iconst (v := 1) hx hb dL_shift_18 (by decide) ?_
    refine lv_iload_n hx hb dL_shift_19 rfl (lv_at hl 2 rfl) ?_
    refine lv_isub hx hb dL_shift_20 ?_
    refine zz_i (y := nI (1 - sd)) (pk_sub (a := 1) (b := sd) (by omega)) ?_
    refine lv_imul hx hb dL_shift_21 ?_
    refine zz_i (y := nI (16 * (1 - sd))) (pk_mul 16 (1 - sd)) ?_
    refine lv_iload hx hb dL_shift_22 (lv_at hl 0 rfl) ?_
    refine lv_iadd hx hb dL_shift_24 ?_
    refine zz_i (y := nI (16 * (1 - sd) + (fr + mm))) (nI_add (16 * (1 - sd)) (fr + mm)) ?_
    refine lv_dup2_11 hx hb dL_shift_25 rfl rfl ?_
    refine zi_iald hx hb hK hP 0 0 rfl rfl (j := 16 * (1 - sd) + (fr + mm)) rfl (by omega) (by decide) dL_shift_26 ?_
    refine zz_i (y := nI (dg oth (fr + mm))) (zr2 hr9 (by omega)) ?_
    refine lv_iconst (v := 1) hx hb dL_shift_27 (by decide) ?_
    refine lv_isub hx hb dL_shift_28 ?_
    refine zz_i (y := nI (dg oth (fr + mm) - 1)) (pk_sub (a := dg oth (fr + mm)) (b := 1) (by omega)) ?_
    refine zi_iast hx hb hK hP hDD hS 0 0 rfl rfl (j := 16 * (1 - sd) + (fr + mm)) rfl (by omega) (by decide) dL_shift_29 (fun H locs hP hS => ?_)
    have hP : va_P (dC, dI) vwCl [(rx, .inl (cyI, 32, .inl (upd F (16 * (1 - sd) + (fr + mm)) (nI (dg oth (fr + mm) - 1)))))] H := hP
    refine lv_aload_n hx hb dL_shift_30 rfl (lv_at hl 1 rfl) ?_
    refine lv_bipush (v := 16) hx hb dL_shift_31 (by decide) ?_
    refine lv_iconst (v := 1) hx hb dL_shift_33 (by decide) ?_
    refine lv_iload_n hx hb dL_shift_34 rfl (lv_at hl 2 rfl) ?_
    refine lv_isub hx hb dL_shift_35 ?_
    refine zz_i (y := nI (1 - sd)) (pk_sub (a := 1) (b := sd) (by omega)) ?_
    refine lv_imul hx hb dL_shift_36 ?_
    refine zz_i (y := nI (16 * (1 - sd))) (pk_mul 16 (1 - sd)) ?_
    refine lv_dup2_11 hx hb dL_shift_37 rfl rfl ?_
    refine zi_iald hx hb hK hP 0 0 rfl rfl (j := 16 * (1 - sd)) rfl (by omega) (by decide) dL_shift_38 ?_
    refine zz_i (y := nI (dg oth 0)) (by rw [pk_un (by omega)]; exact zr2 (p := 0) hr9 (by omega)) ?_
    refine lv_iconst (v := 1) hx hb dL_shift_39 (by decide) ?_
    refine lv_iadd hx hb dL_shift_40 ?_
    refine zz_i (y := nI (dg oth 0 + 1)) (nI_add (dg oth 0) 1) ?_
    refine zi_iast hx hb hK hP hDD hS 0 0 rfl rfl (j := 16 * (1 - sd)) rfl (by omega) (by decide) dL_shift_41 (fun H locs hP hS => ?_)
    have hP : va_P (dC, dI) vwCl [(rx, .inl (cyI, 32, .inl (upd (upd F (16 * (1 - sd) + (fr + mm)) (nI (dg oth (fr + mm) - 1))) (16 * (1 - sd)) (nI (dg oth 0 + 1)))))] H := hP
    have hr8 : zRow (upd (upd F (16 * (1 - sd) + (fr + mm)) (nI (dg oth (fr + mm) - 1))) (16 * (1 - sd)) (nI (dg oth 0 + 1))) 0 sd own (if ztk oth (fr + mm) = true then zsh oth (fr + mm) 0 else oth) := zl_taken hsd hr9 hQ c_12
    refine lv_aload_n hx hb dL_shift_42 rfl (lv_at hl 1 rfl) ?_
    refine lv_bipush (v := 16) hx hb dL_shift_43 (by decide) ?_
    refine lv_iload_n hx hb dL_shift_45 rfl (lv_at hl 2 rfl) ?_
    refine lv_imul hx hb dL_shift_46 ?_
    refine zz_i (y := nI (16 * sd)) (pk_mul 16 sd) ?_
    refine lv_iload_n hx hb dL_shift_47 rfl (lv_at hl 3 rfl) ?_
    refine lv_iadd hx hb dL_shift_48 ?_
    refine zz_i (y := nI (16 * sd + fr)) (nI_add (16 * sd) fr) ?_
    refine lv_dup2_11 hx hb dL_shift_49 rfl rfl ?_
    refine zi_iald hx hb hK hP 0 0 rfl rfl (j := 16 * sd + fr) rfl (by omega) (by decide) dL_shift_50 ?_
    refine zz_i (y := nI (dg own fr)) (zr1 hr8 (by omega)) ?_
    refine lv_iconst (v := 1) hx hb dL_shift_51 (by decide) ?_
    refine lv_isub hx hb dL_shift_52 ?_
    refine zz_i (y := nI (dg own fr - 1)) (pk_sub (a := dg own fr) (b := 1) (by omega)) ?_
    refine zi_iast hx hb hK hP hDD hS 0 0 rfl rfl (j := 16 * sd + fr) rfl (by omega) (by decide) dL_shift_53 (fun H locs hP hS => ?_)
    have hP : va_P (dC, dI) vwCl [(rx, .inl (cyI, 32, .inl (upd (upd (upd F (16 * (1 - sd) + (fr + mm)) (nI (dg oth (fr + mm) - 1))) (16 * (1 - sd)) (nI (dg oth 0 + 1))) (16 * sd + fr) (nI (dg own fr - 1)))))] H := hP
    refine lv_aload_n hx hb dL_shift_54 rfl (lv_at hl 1 rfl) ?_
    refine lv_bipush (v := 16) hx hb dL_shift_55 (by decide) ?_
    refine lv_iload_n hx hb dL_shift_57 rfl (lv_at hl 2 rfl) ?_
    refine lv_imul hx hb dL_shift_58 ?_
    refine zz_i (y := nI (16 * sd)) (pk_mul 16 sd) ?_
    refine lv_iload hx hb dL_shift_59 (lv_at hl 0 rfl) ?_
    refine lv_iadd hx hb dL_shift_61 ?_
    refine zz_i (y := nI (16 * sd + (fr + mm))) (nI_add (16 * sd) (fr + mm)) ?_
    refine lv_dup2_11 hx hb dL_shift_62 rfl rfl ?_
    refine zi_iald hx hb hK hP 0 0 rfl rfl (j := 16 * sd + (fr + mm)) rfl (by omega) (by decide) dL_shift_63 ?_
    refine zz_i (y := nI (dg own (fr + mm))) (by rw [pk_un (by omega)]; exact zr1 hr8 (by omega)) ?_
    refine lv_iconst (v := 1) hx hb dL_shift_64 (by decide) ?_
    refine lv_iadd hx hb dL_shift_65 ?_
    refine zz_i (y := nI (dg own (fr + mm) + 1)) (nI_add (dg own (fr + mm)) 1) ?_
    refine zi_iast hx hb hK hP hDD hS 0 0 rfl rfl (j := 16 * sd + (fr + mm)) rfl (by omega) (by decide) dL_shift_66 (fun H locs hP hS => ?_)
    have hP : va_P (dC, dI) vwCl [(rx, .inl (cyI, 32, .inl (upd (upd (upd (upd F (16 * (1 - sd) + (fr + mm)) (nI (dg oth (fr + mm) - 1))) (16 * (1 - sd)) (nI (dg oth 0 + 1))) (16 * sd + fr) (nI (dg own fr - 1))) (16 * sd + (fr + mm)) (nI (dg own (fr + mm) + 1)))))] H := hP
    exact W.vret hx hb hr (fun t ht hW => ⟨⟨(upd (upd (upd (upd F (16 * (1 - sd) + (fr + mm)) (nI (dg oth (fr + mm) - 1))) (16 * (1 - sd)) (nI (dg oth 0 + 1))) (16 * sd + fr) (nI (dg own fr - 1))) (16 * sd + (fr + mm)) (nI (dg own (fr + mm) + 1))), rfl, (zl_half hsd hr8 hO hd0 (by omega) hto (by omega)), zh ht hP⟩, hS.F ht⟩) hS.2.2 dL_shift_67

set_option maxHeartbeats 4000000 in
set_option maxRecDepth 100000 in
theorem c_L_begin (l : Launch) (dC : Nat → ClassId) (dI : Nat → Nat → Nat) (cyI cyJ : ClassId) (rx ry : Nat) (F G : Nat → Int32) (j : Nat) (hj : j ≤ 4) (hnd : [rx, ry].Nodup) : Met l yL_begin wsL_begin ({ frames := 0, cells := 0, slots := 0, locals := 0 }) (zPc [.int (nI j), .ref rx, .ref ry] (dC, dI) vwCl [(cyI, .int)] [(rx, .inl (cyI, 32, .inl F)), (ry, .inl (cyI, 7, .inl G))] (fun _ => True)) (va_Qv (fun (u : (Nat → Int32) × (Nat → Int32)) => zRow u.1 0 0 j j ∧ zQ u.2 j 0 (-1) (-1) 0 0 0) (fun (u : (Nat → Int32) × (Nat → Int32)) t => va_P (dC, dI) vwCl ([(rx, .inl (cyI, 32, .inl u.1)), (ry, .inl (cyI, 7, .inl u.2))]) t.heap) (zA [rx, ry])) 0 0 (zA [rx, ry]) := by
  refine Met.ofW (cc := cL_begin) (maxL := 4) (ret := none) (by decide) rfl ?_
  intro p e s m args below meth c s₁ B hml hv
  obtain ⟨rfl, hP, hK, hX⟩ := hv
  have hx := B.exec
  have hb := B.bytes
  have hr := B.returns
  have hts := atoms_spec (ws := wsL_begin) B.pre
  have hown : s.vm.findClass RL = some m.cls := findClass_of_methodNamed B.named
  have hlocks := B.notSynchronized
  have hl := lv_entry ([.int (nI j), .ref rx, .ref ry]) (n := 4) (Nat.le_of_ble_eq_true rfl)
  rw [lg_entry_eq]
  generalize (lg_sl ([.int (nI j), .ref rx, .ref ry]) ++ List.replicate (4 - (lg_sl ([.int (nI j), .ref rx, .ref ry])).length) Slot.unset).toArray = ls at hl ⊢
  have hl : lv_has ls 4 [(0, .int (nI j)), (1, .ref rx), (2, .ref ry)] := hl
  have hS : va_S (zA [rx, ry]) s.heap s.heap [] := va_S.rf
  have hDD : zD (zA [rx, ry]) [rx, ry] := ⟨hnd, fun _ h => h⟩
  generalize hQe : MQ below _ _ _ _ _ _ = Q
  refine lv_iconst (v := 0) hx hb dL_begin_0 (by decide) ?_
  refine lv_istore_n (lv' := [(3, .int 0), (0, .int (nI j)), (1, .ref rx), (2, .ref ry)]) hx hb dL_begin_1 rfl hl (by decide) rfl (fun ls hl => ?_)
  have lp : ∀ (n9 : Nat) (i : Nat) (g : Nat → Int32), i ≤ 32 → (∀ q, q < i → g q = (if q % 16 = 0 then nI j else 0)) → 32 - i < n9 → ∀ (H : Heap) (locs : List Loc), va_P (dC, dI) vwCl [(rx, .inl (cyI, 32, .inl g)), (ry, .inl (cyI, 7, .inl G))] H → va_S (zA [rx, ry]) s.heap H locs → ∀ ls : Array Slot, lv_has ls 4 [(3, .int (nI i)), (0, .int (nI j)), (1, .ref rx), (2, .ref ry)] → W p l e (headSpec wsL_begin ({ frames := 0, cells := 0, slots := 0, locals := 0 })).room s m ([.int (nI j), .ref rx, .ref ry] : List Value).toArray below meth c H locs 0 0 Q (F0 m 2 ls []) := by
    intro n9
    induction n9 with
    | zero => intro i g hi2 hg1 hm9; exact absurd hm9 (Nat.not_lt_zero _)
    | succ n9 ih2 =>
      intro i g hi2 hg1 hm9 H locs hP hS ls hl
      refine lv_iload_n hx hb dL_begin_2 rfl (lv_at hl 0 rfl) ?_
      refine lv_bipush (v := 32) hx hb dL_begin_3 (by decide) ?_
      refine lv_icmp_ge (tgt := 29) hx hb dL_begin_5 (by decide) (fun c_5 => ?_) (fun c_5 => ?_)
      · skip
        have c_5 : 32 ≤ i := (nI_leI (a := 32) (b := i) (by omega) (by omega)).mp c_5
        refine lv_aload_n hx hb dL_begin_29 rfl (lv_at hl 3 rfl) ?_
        refine lv_iconst (v := 0) hx hb dL_begin_30 (by decide) ?_
        refine lv_iload_n hx hb dL_begin_31 rfl (lv_at hl 1 rfl) ?_
        refine zi_iast hx hb hK hP hDD hS 1 0 rfl rfl (j := 0) rfl (by omega) (by decide) dL_begin_32 (fun H locs hP hS => ?_)
        have hP : va_P (dC, dI) vwCl [(rx, .inl (cyI, 32, .inl g)), (ry, .inl (cyI, 7, .inl (upd G 0 (nI j))))] H := hP
        refine lv_aload_n hx hb dL_begin_33 rfl (lv_at hl 3 rfl) ?_
        refine lv_iconst (v := 1) hx hb dL_begin_34 (by decide) ?_
        refine lv_iconst (v := 0) hx hb dL_begin_35 (by decide) ?_
        refine zi_iast hx hb hK hP hDD hS 1 0 rfl rfl (j := 1) rfl (by omega) (by decide) dL_begin_36 (fun H locs hP hS => ?_)
        have hP : va_P (dC, dI) vwCl [(rx, .inl (cyI, 32, .inl g)), (ry, .inl (cyI, 7, .inl (upd (upd G 0 (nI j)) 1 0)))] H := hP
        refine lv_aload_n hx hb dL_begin_37 rfl (lv_at hl 3 rfl) ?_
        refine lv_iconst (v := 2) hx hb dL_begin_38 (by decide) ?_
        refine lv_iconst (v := -1) hx hb dL_begin_39 (by decide) ?_
        refine zi_iast hx hb hK hP hDD hS 1 0 rfl rfl (j := 2) rfl (by omega) (by decide) dL_begin_40 (fun H locs hP hS => ?_)
        have hP : va_P (dC, dI) vwCl [(rx, .inl (cyI, 32, .inl g)), (ry, .inl (cyI, 7, .inl (upd (upd (upd G 0 (nI j)) 1 0) 2 (-1))))] H := hP
        refine lv_aload_n hx hb dL_begin_41 rfl (lv_at hl 3 rfl) ?_
        refine lv_iconst (v := 3) hx hb dL_begin_42 (by decide) ?_
        refine lv_iconst (v := -1) hx hb dL_begin_43 (by decide) ?_
        refine zi_iast hx hb hK hP hDD hS 1 0 rfl rfl (j := 3) rfl (by omega) (by decide) dL_begin_44 (fun H locs hP hS => ?_)
        have hP : va_P (dC, dI) vwCl [(rx, .inl (cyI, 32, .inl g)), (ry, .inl (cyI, 7, .inl (upd (upd (upd (upd G 0 (nI j)) 1 0) 2 (-1)) 3 (-1))))] H := hP
        refine lv_aload_n hx hb dL_begin_45 rfl (lv_at hl 3 rfl) ?_
        refine lv_iconst (v := 4) hx hb dL_begin_46 (by decide) ?_
        refine lv_iconst (v := 0) hx hb dL_begin_47 (by decide) ?_
        refine zi_iast hx hb hK hP hDD hS 1 0 rfl rfl (j := 4) rfl (by omega) (by decide) dL_begin_48 (fun H locs hP hS => ?_)
        have hP : va_P (dC, dI) vwCl [(rx, .inl (cyI, 32, .inl g)), (ry, .inl (cyI, 7, .inl (upd (upd (upd (upd (upd G 0 (nI j)) 1 0) 2 (-1)) 3 (-1)) 4 0)))] H := hP
        refine lv_aload_n hx hb dL_begin_49 rfl (lv_at hl 3 rfl) ?_
        refine lv_iconst (v := 5) hx hb dL_begin_50 (by decide) ?_
        refine lv_iconst (v := 0) hx hb dL_begin_51 (by decide) ?_
        refine zi_iast hx hb hK hP hDD hS 1 0 rfl rfl (j := 5) rfl (by omega) (by decide) dL_begin_52 (fun H locs hP hS => ?_)
        have hP : va_P (dC, dI) vwCl [(rx, .inl (cyI, 32, .inl g)), (ry, .inl (cyI, 7, .inl (upd (upd (upd (upd (upd (upd G 0 (nI j)) 1 0) 2 (-1)) 3 (-1)) 4 0) 5 0)))] H := hP
        refine lv_aload_n hx hb dL_begin_53 rfl (lv_at hl 3 rfl) ?_
        refine lv_bipush (v := 6) hx hb dL_begin_54 (by decide) ?_
        refine lv_iconst (v := 0) hx hb dL_begin_56 (by decide) ?_
        refine zi_iast hx hb hK hP hDD hS 1 0 rfl rfl (j := 6) rfl (by omega) (by decide) dL_begin_57 (fun H locs hP hS => ?_)
        have hP : va_P (dC, dI) vwCl [(rx, .inl (cyI, 32, .inl g)), (ry, .inl (cyI, 7, .inl (upd (upd (upd (upd (upd (upd (upd G 0 (nI j)) 1 0) 2 (-1)) 3 (-1)) 4 0) 5 0) 6 0)))] H := hP
        subst hQe
        exact W.vret hx hb hr (fun t ht hW => ⟨⟨(g, (upd (upd (upd (upd (upd (upd (upd G 0 (nI j)) 1 0) 2 (-1)) 3 (-1)) 4 0) 5 0) 6 0)), rfl, ⟨zst_row hj (fun q hq => hg1 q (by omega)), rfl, rfl, rfl, rfl, rfl, rfl, rfl⟩, zh ht hP⟩, hS.F ht⟩) hS.2.2 dL_begin_58
      · skip
        have c_5 : ¬ 32 ≤ i := fun h9 => c_5 ((nI_leI (a := 32) (b := i) (by omega) (by omega)).mpr h9)
        refine lv_aload_n hx hb dL_begin_8 rfl (lv_at hl 2 rfl) ?_
        refine lv_iload_n hx hb dL_begin_9 rfl (lv_at hl 0 rfl) ?_
        refine lv_iload_n hx hb dL_begin_10 rfl (lv_at hl 0 rfl) ?_
        refine lv_bipush (v := 16) hx hb dL_begin_11 (by decide) ?_
        refine lv_irem hx hb dL_begin_13 (by decide) ?_
        refine zz_i (y := nI (i % 16)) (pk_rem (a := i) (d := 16) (by omega) (by decide) (by decide)) ?_
        refine lv_if_ne (tgt := 21) hx hb dL_begin_14 (by decide) (fun c_14 => ?_) (fun c_14 => ?_)
        · skip
          have c_14 : ¬ (i % 16) = 0 := fun h9 => c_14 ((nI_eq (a := i % 16) (b := 0) (by omega) (by omega)).mpr h9)
          refine lv_iconst (v := 0) hx hb dL_begin_21 (by decide) ?_
          refine zi_iast hx hb hK hP hDD hS 0 0 rfl rfl (j := i) rfl (by omega) (by decide) dL_begin_22 (fun H locs hP hS => ?_)
          have hP : va_P (dC, dI) vwCl [(rx, .inl (cyI, 32, .inl (upd g i 0))), (ry, .inl (cyI, 7, .inl G))] H := hP
          refine lv_iinc (v := nI (i + 1)) (lv' := [(3, .int (nI (i + 1))), (0, .int (nI j)), (1, .ref rx), (2, .ref ry)]) hx hb dL_begin_23 hl (k := 0) rfl (nI_1 i) (by decide) rfl (fun ls hl => ?_)
          refine lv_goto (tgt := 2) hx hb dL_begin_26 (by decide) ?_
          exact ih2 (i + 1) _ (by omega) (zst_s hg1 (if_neg c_14).symm) (by omega) _ _ hP hS _ (lv_sub hl [0, 1, 2, 3] rfl)
        · skip
          have c_14 : (i % 16) = 0 := (nI_eq (a := i % 16) (b := 0) (by omega) (by omega)).mp c_14
          refine lv_iload_n hx hb dL_begin_17 rfl (lv_at hl 1 rfl) ?_
          refine lv_goto (tgt := 22) hx hb dL_begin_18 (by decide) ?_
          refine zi_iast hx hb hK hP hDD hS 0 0 rfl rfl (j := i) rfl (by omega) (by decide) dL_begin_22 (fun H locs hP hS => ?_)
          have hP : va_P (dC, dI) vwCl [(rx, .inl (cyI, 32, .inl (upd g i (nI j)))), (ry, .inl (cyI, 7, .inl G))] H := hP
          refine lv_iinc (v := nI (i + 1)) (lv' := [(3, .int (nI (i + 1))), (0, .int (nI j)), (1, .ref rx), (2, .ref ry)]) hx hb dL_begin_23 hl (k := 0) rfl (nI_1 i) (by decide) rfl (fun ls hl => ?_)
          refine lv_goto (tgt := 2) hx hb dL_begin_26 (by decide) ?_
          exact ih2 (i + 1) _ (by omega) (zst_s hg1 (if_pos c_14).symm) (by omega) _ _ hP hS _ (lv_sub hl [0, 1, 2, 3] rfl)
  exact lp 33 0 F (by omega) (fun _ h => absurd h (Nat.not_lt_zero _)) (by omega) _ _ hP hS _ (lv_sub hl [0, 1, 2, 3] rfl)

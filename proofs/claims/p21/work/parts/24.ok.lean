/-! the calls of the class with arguments that they take: nothing is thrown, no cell is made -/
set_option maxHeartbeats 4000000 in
set_option maxRecDepth 100000 in
theorem c_X5_refuseOutside_ok (l : Launch) (v lo hi : Int32) (hq1 : lo ≤ v) (hq2 : v ≤ hi) : Met l yX5_refuseOutside wsX5_refuseOutside ({ frames := 0, cells := 0, slots := 0, locals := 0 }) (va_Pc [.int v, .int lo, .int hi] (fun _ => True)) (va_Qv (fun (_ : Unit) => True) (fun _ _ => True) zF) 0 0 zF := by
  refine Met.ofW (cc := cX5_refuseOutside) (maxL := 3) (ret := none) (by decide) rfl ?_
  intro p e s m args below meth c s₁ B hml hv
  obtain ⟨rfl, -⟩ := hv
  have hx := B.exec
  have hb := B.bytes
  have hr := B.returns
  have hts := atoms_spec (ws := wsX5_refuseOutside) B.pre
  have hown : s.vm.findClass RX5 = some m.cls := findClass_of_methodNamed B.named
  have hlocks := B.notSynchronized
  have hl := lv_entry ([.int v, .int lo, .int hi]) (n := 3) (Nat.le_of_ble_eq_true rfl)
  rw [lg_entry_eq]
  generalize (lg_sl ([.int v, .int lo, .int hi]) ++ List.replicate (3 - (lg_sl ([.int v, .int lo, .int hi])).length) Slot.unset).toArray = ls at hl ⊢
  have hl : lv_has ls 3 [(0, .int v), (1, .int lo), (2, .int hi)] := hl
  have hP : va_P zG0 [] [] s.heap := fun k q h => by simp at h
  have hS : va_S zF s.heap s.heap [] := va_S.rf
  refine lv_iload_n hx hb dX5_refuseOutside_0 rfl (lv_at hl 0 rfl) ?_
  refine lv_iload_n hx hb dX5_refuseOutside_1 rfl (lv_at hl 1 rfl) ?_
  refine lv_icmp_lt (tgt := 10) hx hb dX5_refuseOutside_2 (by decide) (fun c_2 => ?_) (fun c_2 => ?_)
  · skip
    exact absurd c_2 (Int32.not_lt.mpr hq1)
  · skip
    refine lv_iload_n hx hb dX5_refuseOutside_5 rfl (lv_at hl 0 rfl) ?_
    refine lv_iload_n hx hb dX5_refuseOutside_6 rfl (lv_at hl 2 rfl) ?_
    refine lv_icmp_le (tgt := 18) hx hb dX5_refuseOutside_7 (by decide) (fun c_7 => ?_) (fun c_7 => ?_)
    · skip
      exact W.vret hx hb hr (fun t ht hW => ⟨⟨(), rfl, trivial, trivial⟩, hS.F ht⟩) hS.2.2 dX5_refuseOutside_18
    · skip
      exact absurd hq2 c_7

set_option maxHeartbeats 4000000 in
set_option maxRecDepth 100000 in
theorem c_X5_refuseEnding_ok (l : Launch) (a b9 : Nat) (ha : a ≤ 14) (hb9 : b9 ≤ 14) (hne : ¬ (a = b9 ∧ zshr a = true)) : Met l yX5_refuseEnding wsX5_refuseEnding ({ frames := 1, cells := 0, slots := 0, locals := 22 }) (va_Pc [.int (nI a), .int (nI b9)] (fun _ => True)) (va_Qv (fun (_ : Unit) => True) (fun _ _ => True) zF) 0 0 zF := by
  refine Met.ofW (cc := cX5_refuseEnding) (maxL := 2) (ret := none) (by decide) rfl ?_
  intro p e s m args below meth c s₁ B hml hv
  obtain ⟨rfl, -⟩ := hv
  have hx := B.exec
  have hb := B.bytes
  have hr := B.returns
  have hts := atoms_spec (ws := wsX5_refuseEnding) B.pre
  have hown : s.vm.findClass RX5 = some m.cls := findClass_of_methodNamed B.named
  have hlocks := B.notSynchronized
  have hl := lv_entry ([.int (nI a), .int (nI b9)]) (n := 2) (Nat.le_of_ble_eq_true rfl)
  rw [lg_entry_eq]
  generalize (lg_sl ([.int (nI a), .int (nI b9)]) ++ List.replicate (2 - (lg_sl ([.int (nI a), .int (nI b9)])).length) Slot.unset).toArray = ls at hl ⊢
  have hl : lv_has ls 2 [(0, .int (nI a)), (1, .int (nI b9))] := hl
  have hP : va_P zG0 [] [] s.heap := fun k q h => by simp at h
  have hS : va_S zF s.heap s.heap [] := va_S.rf
  refine lv_iload_n hx hb dX5_refuseEnding_0 rfl (lv_at hl 0 rfl) ?_
  refine lv_iconst (v := 0) hx hb dX5_refuseEnding_1 (by decide) ?_
  refine lv_bipush (v := 14) hx hb dX5_refuseEnding_2 (by decide) ?_
  refine zro_v (va_runS (As := [.int (nI a), .int 0, .int 14]) (rest := []) ⟨hx, hb, hml, hown, hts⟩ (c_X5_refuseOutside_ok l (nI a) 0 14 (zlo (by omega)) (zhi (x := a) (n := 14) (by omega) (by decide))) (va_cwS 3 hts gX5_refuseEnding_X5_refuseOutside rfl rfl rfl (by decide +kernel) ⟨Nat.le_of_ble_eq_true rfl, Nat.le_of_ble_eq_true rfl⟩) zPu rfl rfl hl.1 rfl (lv_room (Nat.le_of_ble_eq_true rfl)) dX5_refuseEnding_4 ⟨Nat.zero_le _, Nat.zero_le _⟩) hP hS (fun H locs hP hS => ?_)
  refine lv_iload_n hx hb dX5_refuseEnding_7 rfl (lv_at hl 1 rfl) ?_
  refine lv_iconst (v := 0) hx hb dX5_refuseEnding_8 (by decide) ?_
  refine lv_bipush (v := 14) hx hb dX5_refuseEnding_9 (by decide) ?_
  refine zro_v (va_runS (As := [.int (nI b9), .int 0, .int 14]) (rest := []) ⟨hx, hb, hml, hown, hts⟩ (c_X5_refuseOutside_ok l (nI b9) 0 14 (zlo (by omega)) (zhi (x := b9) (n := 14) (by omega) (by decide))) (va_cwS 3 hts gX5_refuseEnding_X5_refuseOutside rfl rfl rfl (by decide +kernel) ⟨Nat.le_of_ble_eq_true rfl, Nat.le_of_ble_eq_true rfl⟩) zPu rfl rfl hl.1 rfl (lv_room (Nat.le_of_ble_eq_true rfl)) dX5_refuseEnding_11 ⟨Nat.zero_le _, Nat.zero_le _⟩) hP hS (fun H locs hP hS => ?_)
  refine lv_iload_n hx hb dX5_refuseEnding_14 rfl (lv_at hl 0 rfl) ?_
  refine lv_iload_n hx hb dX5_refuseEnding_15 rfl (lv_at hl 1 rfl) ?_
  refine lv_icmp_ne (tgt := 34) hx hb dX5_refuseEnding_16 (by decide) (fun c_16 => ?_) (fun c_16 => ?_)
  · skip
    have c_16 : ¬ a = b9 := fun h9 => c_16 ((nI_eq (a := a) (b := b9) (by omega) (by omega)).mpr h9)
    exact W.vret hx hb hr (fun t ht hW => ⟨⟨(), rfl, trivial, trivial⟩, hS.F ht⟩) hS.2.2 dX5_refuseEnding_34
  · skip
    have c_16 : a = b9 := (nI_eq (a := a) (b := b9) (by omega) (by omega)).mp c_16
    refine lv_iload_n hx hb dX5_refuseEnding_19 rfl (lv_at hl 0 rfl) ?_
    refine zro_i (va_runS (As := [.int (nI a)]) (rest := []) ⟨hx, hb, hml, hown, hts⟩ (c_X4_isShared l a (by omega)) (va_cwS 1 hts gX5_refuseEnding_X4_isShared rfl rfl rfl (by decide +kernel) ⟨Nat.le_of_ble_eq_true rfl, Nat.le_of_ble_eq_true rfl⟩) zPu rfl rfl hl.1 rfl (lv_room (Nat.le_of_ble_eq_true rfl)) dX5_refuseEnding_20 ⟨Nat.zero_le _, Nat.zero_le _⟩) hP hS (fun H locs hP hS => ?_)
    refine lv_if_eq (tgt := 34) hx hb dX5_refuseEnding_23 (by decide) (fun c_23 => ?_) (fun c_23 => ?_)
    · skip
      have c_23 := bI_0.mp c_23
      exact W.vret hx hb hr (fun t ht hW => ⟨⟨(), rfl, trivial, trivial⟩, hS.F ht⟩) hS.2.2 dX5_refuseEnding_34
    · skip
      have c_23 := bI_1.mp c_23
      exact absurd ⟨c_16, c_23⟩ hne

set_option maxHeartbeats 4000000 in
set_option maxRecDepth 100000 in
theorem c_X5_at_ok (l : Launch) (dC : Nat → ClassId) (dI : Nat → Nat → Nat) (cyI cyJ : ClassId) (ax a0 a1 ae aw ao aq : Nat) (mk wn cnt lo lq : Int32) (k tn own oth mm : Nat) (hsd : zSd tn a0 a1 ao aq) (hO : zok k own) (hQ : zok k oth) (hmk : zmk mk mm) (hmm : mm ≤ 4) (sN pN : Nat) (hsN : sN ≤ 1) (hpN : pN ≤ 15) : Met l yX5_at wsX5_at ({ frames := 1, cells := 0, slots := 0, locals := 22 }) (zPc [.ref ax, .int (nI sN), .int (nI pN)] (dC, dI) vwCl [(cyI, .int)] [(ax, .inr (2, [.ref a0, .ref a1, .ref ae, .ref aw, .int (nI k), .int (nI tn), .int mk, .int wn, .int cnt])), (ao, .inr (1, [.long (lN own), .int lo])), (aq, .inr (1, [.long (lN oth), .int lq]))] (fun _ => True)) (va_Qi (fun (r : Int32) (_ : Unit) => r = nI (dg (if sN = tn then own else oth) pN)) (fun _ _ => True) zF) 0 0 zF := by
  refine Met.ofW (cc := cX5_at) (maxL := 3) (ret := (some .int)) (by decide) rfl ?_
  intro p e s m args below meth c s₁ B hml hv
  obtain ⟨rfl, hP, hK, hX⟩ := hv
  have hx := B.exec
  have hb := B.bytes
  have hr := B.returns
  have hts := atoms_spec (ws := wsX5_at) B.pre
  have hown : s.vm.findClass RX5 = some m.cls := findClass_of_methodNamed B.named
  have hlocks := B.notSynchronized
  have hinX3 : ∀ w ∈ wsX30, w ∈ wsX5_at := by decide +kernel
  have hl := lv_entry ([.ref ax, .int (nI sN), .int (nI pN)]) (n := 3) (Nat.le_of_ble_eq_true rfl)
  rw [lg_entry_eq]
  generalize (lg_sl ([.ref ax, .int (nI sN), .int (nI pN)]) ++ List.replicate (3 - (lg_sl ([.ref ax, .int (nI sN), .int (nI pN)])).length) Slot.unset).toArray = ls at hl ⊢
  have hl : lv_has ls 3 [(0, .ref ax), (1, .int (nI sN)), (2, .int (nI pN))] := hl
  have hS : va_S zF s.heap s.heap [] := va_S.rf
  generalize hQe : MQ below _ _ _ _ _ _ = Q
  have htn := zSd_le hsd
  have hl1 := hO.lt
  have hl2 := hQ.lt
  refine lv_iload_n hx hb dX5_at_0 rfl (lv_at hl 1 rfl) ?_
  refine lv_iconst (v := 0) hx hb dX5_at_1 (by decide) ?_
  refine lv_iconst (v := 1) hx hb dX5_at_2 (by decide) ?_
  refine zro_v (va_runS (As := [.int (nI sN), .int 0, .int 1]) (rest := []) ⟨hx, hb, hml, hown, hts⟩ (c_X5_refuseOutside_ok l (nI sN) 0 1 (zlo (by omega)) (zhi (x := sN) (n := 1) (by omega) (by decide))) (va_cwS 3 hts gX5_at_X5_refuseOutside rfl rfl rfl (by decide +kernel) ⟨Nat.le_of_ble_eq_true rfl, Nat.le_of_ble_eq_true rfl⟩) zPu rfl rfl hl.1 rfl (lv_room (Nat.le_of_ble_eq_true rfl)) dX5_at_3 ⟨Nat.zero_le _, Nat.zero_le _⟩) hP hS (fun H locs hP hS => ?_)
  refine lv_iload_n hx hb dX5_at_6 rfl (lv_at hl 2 rfl) ?_
  refine lv_iconst (v := 0) hx hb dX5_at_7 (by decide) ?_
  refine lv_bipush (v := 15) hx hb dX5_at_8 (by decide) ?_
  refine zro_v (va_runS (As := [.int (nI pN), .int 0, .int 15]) (rest := []) ⟨hx, hb, hml, hown, hts⟩ (c_X5_refuseOutside_ok l (nI pN) 0 15 (zlo (by omega)) (zhi (x := pN) (n := 15) (by omega) (by decide))) (va_cwS 3 hts gX5_at_X5_refuseOutside rfl rfl rfl (by decide +kernel) ⟨Nat.le_of_ble_eq_true rfl, Nat.le_of_ble_eq_true rfl⟩) zPu rfl rfl hl.1 rfl (lv_room (Nat.le_of_ble_eq_true rfl)) dX5_at_10 ⟨Nat.zero_le _, Nat.zero_le _⟩) hP hS (fun H locs hP hS => ?_)
  refine lv_aload_n hx hb dX5_at_13 rfl (lv_at hl 0 rfl) ?_
  refine lv_iload_n hx hb dX5_at_14 rfl (lv_at hl 1 rfl) ?_
  refine zro_r (va_runV (As := [.int (nI sN)]) (rest := []) ⟨hx, hb, hml, hown, hts⟩ (c_X5_sideOf l dC dI cyI cyJ ax a0 a1 ae aw (nI k) (nI tn) mk wn cnt sN (by omega)) (cwV 1 hts gX5_at_X5_sideOf rfl rfl rfl (by decide +kernel) ⟨Nat.le_of_ble_eq_true rfl, Nat.le_of_ble_eq_true rfl⟩) (zPc_V (ci := 2) (q0 := 0) zB_T hP hK rfl rfl [0] rfl (fun _ _ _ => trivial)) rfl rfl hl.1 rfl (lv_room (Nat.le_of_ble_eq_true rfl)) dX5_at_15 ⟨Nat.zero_le _, Nat.zero_le _⟩) hP hS (fun H locs hP hS => ?_)
  by_cases hst : sN = tn
  · skip
    refine zz_r (y := ao) (zSd_e hsd (by omega) hst) ?_
    refine va_get (D := (dC, dI)) (ci := 1) (v := .long (lN own)) (C := RX3) (T := TX3) (N := 2) hx hb hts hinX3 hown hK hP 1 rfl rfl 0 (by decide) (hts (.fieldLink RX5 70 "RoyalUrTable$Side" "layout" "J") (List.mem_of_getElem? (i := 1) rfl)) (fun _ h9 => h9) rfl dX5_at_18 ?_
    refine lv_iload_n hx hb dX5_at_21 rfl (lv_at hl 2 rfl) ?_
    refine zro_i (va_runS (As := [.long (lN own), .int (nI pN)]) (rest := []) ⟨hx, hb, hml, hown, hts⟩ (c_X2_countAt l own (by omega) pN (by omega)) (va_cwS 2 hts gX5_at_X2_countAt rfl rfl rfl (by decide +kernel) ⟨Nat.le_of_ble_eq_true rfl, Nat.le_of_ble_eq_true rfl⟩) zPu rfl rfl hl.1 rfl (lv_room (Nat.le_of_ble_eq_true rfl)) dX5_at_22 ⟨Nat.zero_le _, Nat.zero_le _⟩) hP hS (fun H locs hP hS => ?_)
    have hd_22 := dg_lt own pN
    subst hQe
    exact W.iret (v := nI (dg own pN)) hx hb hr (fun t ht hW => ⟨⟨_, (), rfl, (by rw [if_pos hst]), trivial⟩, hS.F ht⟩) hS.2.2 dX5_at_25
  · skip
    refine zz_r (y := aq) (zSd_n hsd (by omega) hst) ?_
    refine va_get (D := (dC, dI)) (ci := 1) (v := .long (lN oth)) (C := RX3) (T := TX3) (N := 2) hx hb hts hinX3 hown hK hP 2 rfl rfl 0 (by decide) (hts (.fieldLink RX5 70 "RoyalUrTable$Side" "layout" "J") (List.mem_of_getElem? (i := 1) rfl)) (fun _ h9 => h9) rfl dX5_at_18 ?_
    refine lv_iload_n hx hb dX5_at_21 rfl (lv_at hl 2 rfl) ?_
    refine zro_i (va_runS (As := [.long (lN oth), .int (nI pN)]) (rest := []) ⟨hx, hb, hml, hown, hts⟩ (c_X2_countAt l oth (by omega) pN (by omega)) (va_cwS 2 hts gX5_at_X2_countAt rfl rfl rfl (by decide +kernel) ⟨Nat.le_of_ble_eq_true rfl, Nat.le_of_ble_eq_true rfl⟩) zPu rfl rfl hl.1 rfl (lv_room (Nat.le_of_ble_eq_true rfl)) dX5_at_22 ⟨Nat.zero_le _, Nat.zero_le _⟩) hP hS (fun H locs hP hS => ?_)
    have hd_22 := dg_lt oth pN
    subst hQe
    exact W.iret (v := nI (dg oth pN)) hx hb hr (fun t ht hW => ⟨⟨_, (), rfl, (by rw [if_neg hst]), trivial⟩, hS.F ht⟩) hS.2.2 dX5_at_25

set_option maxHeartbeats 4000000 in
set_option maxRecDepth 100000 in
theorem c_X5_progress_ok (l : Launch) (dC : Nat → ClassId) (dI : Nat → Nat → Nat) (cyI cyJ : ClassId) (ax a0 a1 ae aw ao aq : Nat) (mk wn cnt lo lq : Int32) (k tn own oth mm : Nat) (hsd : zSd tn a0 a1 ao aq) (hO : zok k own) (hQ : zok k oth) (hmk : zmk mk mm) (hmm : mm ≤ 4) (sN : Nat) (hsN : sN ≤ 1) : Met l yX5_progress wsX5_progress ({ frames := 2, cells := 0, slots := 0, locals := 45 }) (zPc [.ref ax, .int (nI sN)] (dC, dI) vwCl [(cyI, .int)] [(ax, .inr (2, [.ref a0, .ref a1, .ref ae, .ref aw, .int (nI k), .int (nI tn), .int mk, .int wn, .int cnt])), (ao, .inr (1, [.long (lN own), .int lo])), (aq, .inr (1, [.long (lN oth), .int lq]))] (fun _ => True)) (va_Qi (fun (r : Int32) (_ : Unit) => r = nI (psum (if sN = tn then own else oth) 16)) (fun _ _ => True) zF) 0 0 zF := by
  refine Met.ofW (cc := cX5_progress) (maxL := 2) (ret := (some .int)) (by decide) rfl ?_
  intro p e s m args below meth c s₁ B hml hv
  obtain ⟨rfl, hP, hK, hX⟩ := hv
  have hx := B.exec
  have hb := B.bytes
  have hr := B.returns
  have hts := atoms_spec (ws := wsX5_progress) B.pre
  have hown : s.vm.findClass RX5 = some m.cls := findClass_of_methodNamed B.named
  have hlocks := B.notSynchronized
  have hinX3 : ∀ w ∈ wsX30, w ∈ wsX5_progress := by decide +kernel
  have hl := lv_entry ([.ref ax, .int (nI sN)]) (n := 2) (Nat.le_of_ble_eq_true rfl)
  rw [lg_entry_eq]
  generalize (lg_sl ([.ref ax, .int (nI sN)]) ++ List.replicate (2 - (lg_sl ([.ref ax, .int (nI sN)])).length) Slot.unset).toArray = ls at hl ⊢
  have hl : lv_has ls 2 [(0, .ref ax), (1, .int (nI sN))] := hl
  have hS : va_S zF s.heap s.heap [] := va_S.rf
  generalize hQe : MQ below _ _ _ _ _ _ = Q
  have htn := zSd_le hsd
  have hl1 := hO.lt
  have hl2 := hQ.lt
  refine lv_iload_n hx hb dX5_progress_0 rfl (lv_at hl 1 rfl) ?_
  refine lv_iconst (v := 0) hx hb dX5_progress_1 (by decide) ?_
  refine lv_iconst (v := 1) hx hb dX5_progress_2 (by decide) ?_
  refine zro_v (va_runS (As := [.int (nI sN), .int 0, .int 1]) (rest := []) ⟨hx, hb, hml, hown, hts⟩ (c_X5_refuseOutside_ok l (nI sN) 0 1 (zlo (by omega)) (zhi (x := sN) (n := 1) (by omega) (by decide))) (va_cwS 3 hts gX5_progress_X5_refuseOutside rfl rfl rfl (by decide +kernel) ⟨Nat.le_of_ble_eq_true rfl, Nat.le_of_ble_eq_true rfl⟩) zPu rfl rfl hl.1 rfl (lv_room (Nat.le_of_ble_eq_true rfl)) dX5_progress_3 ⟨Nat.zero_le _, Nat.zero_le _⟩) hP hS (fun H locs hP hS => ?_)
  refine lv_aload_n hx hb dX5_progress_6 rfl (lv_at hl 0 rfl) ?_
  refine lv_iload_n hx hb dX5_progress_7 rfl (lv_at hl 1 rfl) ?_
  refine zro_r (va_runV (As := [.int (nI sN)]) (rest := []) ⟨hx, hb, hml, hown, hts⟩ (c_X5_sideOf l dC dI cyI cyJ ax a0 a1 ae aw (nI k) (nI tn) mk wn cnt sN (by omega)) (cwV 1 hts gX5_progress_X5_sideOf rfl rfl rfl (by decide +kernel) ⟨Nat.le_of_ble_eq_true rfl, Nat.le_of_ble_eq_true rfl⟩) (zPc_V (ci := 2) (q0 := 0) zB_T hP hK rfl rfl [0] rfl (fun _ _ _ => trivial)) rfl rfl hl.1 rfl (lv_room (Nat.le_of_ble_eq_true rfl)) dX5_progress_8 ⟨Nat.zero_le _, Nat.zero_le _⟩) hP hS (fun H locs hP hS => ?_)
  by_cases hst : sN = tn
  · skip
    refine zz_r (y := ao) (zSd_e hsd (by omega) hst) ?_
    refine va_get (D := (dC, dI)) (ci := 1) (v := .long (lN own)) (C := RX3) (T := TX3) (N := 2) hx hb hts hinX3 hown hK hP 1 rfl rfl 0 (by decide) (hts (.fieldLink RX5 70 "RoyalUrTable$Side" "layout" "J") (List.mem_of_getElem? (i := 1) rfl)) (fun _ h9 => h9) rfl dX5_progress_11 ?_
    refine zro_i (va_runS (As := [.long (lN own)]) (rest := []) ⟨hx, hb, hml, hown, hts⟩ (c_X2_sumOfPlaces l own (by omega)) (va_cwS 1 hts gX5_progress_X2_sumOfPlaces rfl rfl rfl (by decide +kernel) ⟨Nat.le_of_ble_eq_true rfl, Nat.le_of_ble_eq_true rfl⟩) zPu rfl rfl hl.1 rfl (lv_room (Nat.le_of_ble_eq_true rfl)) dX5_progress_14 ⟨Nat.zero_le _, Nat.zero_le _⟩) hP hS (fun H locs hP hS => ?_)
    subst hQe
    exact W.iret (v := nI (psum own 16)) hx hb hr (fun t ht hW => ⟨⟨_, (), rfl, (by rw [if_pos hst]), trivial⟩, hS.F ht⟩) hS.2.2 dX5_progress_17
  · skip
    refine zz_r (y := aq) (zSd_n hsd (by omega) hst) ?_
    refine va_get (D := (dC, dI)) (ci := 1) (v := .long (lN oth)) (C := RX3) (T := TX3) (N := 2) hx hb hts hinX3 hown hK hP 2 rfl rfl 0 (by decide) (hts (.fieldLink RX5 70 "RoyalUrTable$Side" "layout" "J") (List.mem_of_getElem? (i := 1) rfl)) (fun _ h9 => h9) rfl dX5_progress_11 ?_
    refine zro_i (va_runS (As := [.long (lN oth)]) (rest := []) ⟨hx, hb, hml, hown, hts⟩ (c_X2_sumOfPlaces l oth (by omega)) (va_cwS 1 hts gX5_progress_X2_sumOfPlaces rfl rfl rfl (by decide +kernel) ⟨Nat.le_of_ble_eq_true rfl, Nat.le_of_ble_eq_true rfl⟩) zPu rfl rfl hl.1 rfl (lv_room (Nat.le_of_ble_eq_true rfl)) dX5_progress_14 ⟨Nat.zero_le _, Nat.zero_le _⟩) hP hS (fun H locs hP hS => ?_)
    subst hQe
    exact W.iret (v := nI (psum oth 16)) hx hb hr (fun t ht hW => ⟨⟨_, (), rfl, (by rw [if_neg hst]), trivial⟩, hS.F ht⟩) hS.2.2 dX5_progress_17

set_option maxHeartbeats 4000000 in
set_option maxRecDepth 100000 in
theorem c_X5_captured_ok (l : Launch) (dC : Nat → ClassId) (dI : Nat → Nat → Nat) (cyI cyJ : ClassId) (ax a0 a1 ae aw ao aq : Nat) (mk wn cnt lo lq : Int32) (k tn own oth mm : Nat) (hsd : zSd tn a0 a1 ao aq) (hO : zok k own) (hQ : zok k oth) (hmk : zmk mk mm) (hmm : mm ≤ 4) (sN : Nat) (hsN : sN ≤ 1) : Met l yX5_captured wsX5_captured ({ frames := 1, cells := 0, slots := 0, locals := 22 }) (zPc [.ref ax, .int (nI sN)] (dC, dI) vwCl [(cyI, .int)] [(ax, .inr (2, [.ref a0, .ref a1, .ref ae, .ref aw, .int (nI k), .int (nI tn), .int mk, .int wn, .int cnt])), (ao, .inr (1, [.long (lN own), .int lo])), (aq, .inr (1, [.long (lN oth), .int lq]))] (fun _ => True)) (va_Qi (fun (r : Int32) (_ : Unit) => r = (if sN = tn then lo else lq)) (fun _ _ => True) zF) 0 0 zF := by
  refine Met.ofW (cc := cX5_captured) (maxL := 2) (ret := (some .int)) (by decide) rfl ?_
  intro p e s m args below meth c s₁ B hml hv
  obtain ⟨rfl, hP, hK, hX⟩ := hv
  have hx := B.exec
  have hb := B.bytes
  have hr := B.returns
  have hts := atoms_spec (ws := wsX5_captured) B.pre
  have hown : s.vm.findClass RX5 = some m.cls := findClass_of_methodNamed B.named
  have hlocks := B.notSynchronized
  have hinX3 : ∀ w ∈ wsX30, w ∈ wsX5_captured := by decide +kernel
  have hl := lv_entry ([.ref ax, .int (nI sN)]) (n := 2) (Nat.le_of_ble_eq_true rfl)
  rw [lg_entry_eq]
  generalize (lg_sl ([.ref ax, .int (nI sN)]) ++ List.replicate (2 - (lg_sl ([.ref ax, .int (nI sN)])).length) Slot.unset).toArray = ls at hl ⊢
  have hl : lv_has ls 2 [(0, .ref ax), (1, .int (nI sN))] := hl
  have hS : va_S zF s.heap s.heap [] := va_S.rf
  generalize hQe : MQ below _ _ _ _ _ _ = Q
  have htn := zSd_le hsd
  refine lv_iload_n hx hb dX5_captured_0 rfl (lv_at hl 1 rfl) ?_
  refine lv_iconst (v := 0) hx hb dX5_captured_1 (by decide) ?_
  refine lv_iconst (v := 1) hx hb dX5_captured_2 (by decide) ?_
  refine zro_v (va_runS (As := [.int (nI sN), .int 0, .int 1]) (rest := []) ⟨hx, hb, hml, hown, hts⟩ (c_X5_refuseOutside_ok l (nI sN) 0 1 (zlo (by omega)) (zhi (x := sN) (n := 1) (by omega) (by decide))) (va_cwS 3 hts gX5_captured_X5_refuseOutside rfl rfl rfl (by decide +kernel) ⟨Nat.le_of_ble_eq_true rfl, Nat.le_of_ble_eq_true rfl⟩) zPu rfl rfl hl.1 rfl (lv_room (Nat.le_of_ble_eq_true rfl)) dX5_captured_3 ⟨Nat.zero_le _, Nat.zero_le _⟩) hP hS (fun H locs hP hS => ?_)
  refine lv_aload_n hx hb dX5_captured_6 rfl (lv_at hl 0 rfl) ?_
  refine lv_iload_n hx hb dX5_captured_7 rfl (lv_at hl 1 rfl) ?_
  refine zro_r (va_runV (As := [.int (nI sN)]) (rest := []) ⟨hx, hb, hml, hown, hts⟩ (c_X5_sideOf l dC dI cyI cyJ ax a0 a1 ae aw (nI k) (nI tn) mk wn cnt sN (by omega)) (cwV 1 hts gX5_captured_X5_sideOf rfl rfl rfl (by decide +kernel) ⟨Nat.le_of_ble_eq_true rfl, Nat.le_of_ble_eq_true rfl⟩) (zPc_V (ci := 2) (q0 := 0) zB_T hP hK rfl rfl [0] rfl (fun _ _ _ => trivial)) rfl rfl hl.1 rfl (lv_room (Nat.le_of_ble_eq_true rfl)) dX5_captured_8 ⟨Nat.zero_le _, Nat.zero_le _⟩) hP hS (fun H locs hP hS => ?_)
  by_cases hst : sN = tn
  · skip
    refine zz_r (y := ao) (zSd_e hsd (by omega) hst) ?_
    refine va_get (D := (dC, dI)) (ci := 1) (v := .int lo) (C := RX3) (T := TX3) (N := 2) hx hb hts hinX3 hown hK hP 1 rfl rfl 1 (by decide) (hts (.fieldLink RX5 84 "RoyalUrTable$Side" "lost" "I") (List.mem_of_getElem? (i := 1) rfl)) (fun _ h9 => h9) rfl dX5_captured_11 ?_
    subst hQe
    exact W.iret (v := lo) hx hb hr (fun t ht hW => ⟨⟨_, (), rfl, (by rw [if_pos hst]), trivial⟩, hS.F ht⟩) hS.2.2 dX5_captured_14
  · skip
    refine zz_r (y := aq) (zSd_n hsd (by omega) hst) ?_
    refine va_get (D := (dC, dI)) (ci := 1) (v := .int lq) (C := RX3) (T := TX3) (N := 2) hx hb hts hinX3 hown hK hP 2 rfl rfl 1 (by decide) (hts (.fieldLink RX5 84 "RoyalUrTable$Side" "lost" "I") (List.mem_of_getElem? (i := 1) rfl)) (fun _ h9 => h9) rfl dX5_captured_11 ?_
    subst hQe
    exact W.iret (v := lq) hx hb hr (fun t ht hW => ⟨⟨_, (), rfl, (by rw [if_neg hst]), trivial⟩, hS.F ht⟩) hS.2.2 dX5_captured_14

set_option maxHeartbeats 4000000 in
set_option maxRecDepth 100000 in
theorem c_X5_captures_ok (l : Launch) (dC : Nat → ClassId) (dI : Nat → Nat → Nat) (cyI cyJ : ClassId) (ax a0 a1 ae aw ao aq : Nat) (mk wn cnt lo lq : Int32) (k tn own oth mm : Nat) (hsd : zSd tn a0 a1 ao aq) (hO : zok k own) (hQ : zok k oth) (hmk : zmk mk mm) (hmm : mm ≤ 4) (fr : Nat) (hfr : fr ≤ 14) : Met l yX5_captures wsX5_captures ({ frames := 3, cells := 0, slots := 0, locals := 69 }) (zPc [.ref ax, .int (nI fr)] (dC, dI) vwCl [(cyI, .int)] [(ax, .inr (2, [.ref a0, .ref a1, .ref ae, .ref aw, .int (nI k), .int (nI tn), .int mk, .int wn, .int cnt])), (ao, .inr (1, [.long (lN own), .int lo])), (aq, .inr (1, [.long (lN oth), .int lq]))] (fun _ => True)) (va_Qi (fun (r : Int32) (_ : Unit) => r = bI (zcm own oth fr mm && ztk oth (fr + mm))) (fun _ _ => True) zF) 0 0 zF := by
  refine Met.ofW (cc := cX5_captures) (maxL := 2) (ret := (some .boolean)) (by decide) rfl ?_
  intro p e s m args below meth c s₁ B hml hv
  obtain ⟨rfl, hP, hK, hX⟩ := hv
  have hx := B.exec
  have hb := B.bytes
  have hr := B.returns
  have hts := atoms_spec (ws := wsX5_captures) B.pre
  have hown : s.vm.findClass RX5 = some m.cls := findClass_of_methodNamed B.named
  have hlocks := B.notSynchronized
  have hinX3 : ∀ w ∈ wsX30, w ∈ wsX5_captures := by decide +kernel
  have hinX5 : ∀ w ∈ wsX50, w ∈ wsX5_captures := by decide +kernel
  have hl := lv_entry ([.ref ax, .int (nI fr)]) (n := 2) (Nat.le_of_ble_eq_true rfl)
  rw [lg_entry_eq]
  generalize (lg_sl ([.ref ax, .int (nI fr)]) ++ List.replicate (2 - (lg_sl ([.ref ax, .int (nI fr)])).length) Slot.unset).toArray = ls at hl ⊢
  have hl : lv_has ls 2 [(0, .ref ax), (1, .int (nI fr))] := hl
  have hS : va_S zF s.heap s.heap [] := va_S.rf
  have htn := zSd_le hsd
  have hl2 := hQ.lt
  refine lv_iload_n hx hb dX5_captures_0 rfl (lv_at hl 1 rfl) ?_
  refine lv_iconst (v := 0) hx hb dX5_captures_1 (by decide) ?_
  refine lv_bipush (v := 14) hx hb dX5_captures_2 (by decide) ?_
  refine zro_v (va_runS (As := [.int (nI fr), .int 0, .int 14]) (rest := []) ⟨hx, hb, hml, hown, hts⟩ (c_X5_refuseOutside_ok l (nI fr) 0 14 (zlo (by omega)) (zhi (x := fr) (n := 14) (by omega) (by decide))) (va_cwS 3 hts gX5_captures_X5_refuseOutside rfl rfl rfl (by decide +kernel) ⟨Nat.le_of_ble_eq_true rfl, Nat.le_of_ble_eq_true rfl⟩) zPu rfl rfl hl.1 rfl (lv_room (Nat.le_of_ble_eq_true rfl)) dX5_captures_4 ⟨Nat.zero_le _, Nat.zero_le _⟩) hP hS (fun H locs hP hS => ?_)
  refine lv_aload_n hx hb dX5_captures_7 rfl (lv_at hl 0 rfl) ?_
  refine lv_iload_n hx hb dX5_captures_8 rfl (lv_at hl 1 rfl) ?_
  refine zro_i (va_runV (As := [.int (nI fr)]) (rest := []) ⟨hx, hb, hml, hown, hts⟩ (c_X5_canMoveFrom l dC dI cyI cyJ ax a0 a1 ae aw ao aq mk wn cnt lo lq k tn own oth hsd hO hQ mm fr hmk hmm (by omega)) (cwV 1 hts gX5_captures_X5_canMoveFrom rfl rfl rfl (by decide +kernel) ⟨Nat.le_of_ble_eq_true rfl, Nat.le_of_ble_eq_true rfl⟩) (zPc_V (ci := 2) (q0 := 0) zB_T hP hK rfl rfl [0, 1, 2] rfl (fun _ _ _ => trivial)) rfl rfl hl.1 rfl (lv_room (Nat.le_of_ble_eq_true rfl)) dX5_captures_9 ⟨Nat.zero_le _, Nat.zero_le _⟩) hP hS (fun H locs hP hS => ?_)
  refine lv_if_eq (tgt := 44) hx hb dX5_captures_12 (by decide) (fun c_12 => ?_) (fun c_12 => ?_)
  · skip
    have c_12 := bI_0.mp c_12
    refine lv_iconst (v := 0) hx hb dX5_captures_44 (by decide) ?_
    exact W.zret (v := 0) hx hb hr rfl (fun t ht hW => ⟨⟨_, (), rfl, (bI_f (by rw [c_12]; rfl)), trivial⟩, hS.F ht⟩) hS.2.2 dX5_captures_45
  · skip
    have c_12 := bI_1.mp c_12
    have hkn : mk = nI mm := zmk_eq hmk (zcm_spec c_12).1
    refine lv_aload_n hx hb dX5_captures_15 rfl (lv_at hl 0 rfl) ?_
    refine lv_iconst (v := 1) hx hb dX5_captures_16 (by decide) ?_
    refine lv_aload_n hx hb dX5_captures_17 rfl (lv_at hl 0 rfl) ?_
    refine va_get (D := (dC, dI)) (ci := 2) (v := .int (nI tn)) (C := RX5) (T := TX5) (N := 9) hx hb hts hinX5 hown hK hP 0 rfl rfl 5 (by decide) (hts (.fieldLink RX5 59 "RoyalUrTable" "turn" "I") (List.mem_of_getElem? (i := 1) rfl)) (fun _ h9 => h9) rfl dX5_captures_18 ?_
    refine lv_isub hx hb dX5_captures_21 ?_
    refine zz_i (y := nI (1 - tn)) (pk_sub (a := 1) (b := tn) (by omega)) ?_
    refine zro_r (va_runV (As := [.int (nI (1 - tn))]) (rest := []) ⟨hx, hb, hml, hown, hts⟩ (c_X5_sideOf l dC dI cyI cyJ ax a0 a1 ae aw (nI k) (nI tn) mk wn cnt (1 - tn) (by omega)) (cwV 1 hts gX5_captures_X5_sideOf rfl rfl rfl (by decide +kernel) ⟨Nat.le_of_ble_eq_true rfl, Nat.le_of_ble_eq_true rfl⟩) (zPc_V (ci := 2) (q0 := 0) zB_T hP hK rfl rfl [0] rfl (fun _ _ _ => trivial)) rfl rfl hl.1 rfl (lv_room (Nat.le_of_ble_eq_true rfl)) dX5_captures_22 ⟨Nat.zero_le _, Nat.zero_le _⟩) hP hS (fun H locs hP hS => ?_)
    refine zz_r (y := aq) (zSd_q hsd) ?_
    refine va_get (D := (dC, dI)) (ci := 1) (v := .long (lN oth)) (C := RX3) (T := TX3) (N := 2) hx hb hts hinX3 hown hK hP 2 rfl rfl 0 (by decide) (hts (.fieldLink RX5 70 "RoyalUrTable$Side" "layout" "J") (List.mem_of_getElem? (i := 2) rfl)) (fun _ h9 => h9) rfl dX5_captures_25 ?_
    refine lv_iload_n hx hb dX5_captures_28 rfl (lv_at hl 1 rfl) ?_
    refine lv_aload_n hx hb dX5_captures_29 rfl (lv_at hl 0 rfl) ?_
    refine va_get (D := (dC, dI)) (ci := 2) (v := .int mk) (C := RX5) (T := TX5) (N := 9) hx hb hts hinX5 hown hK hP 0 rfl rfl 6 (by decide) (hts (.fieldLink RX5 46 "RoyalUrTable" "marksTold" "I") (List.mem_of_getElem? (i := 3) rfl)) (fun _ h9 => h9) rfl dX5_captures_30 ?_
    refine zz_i (y := nI mm) hkn ?_
    refine lv_iadd hx hb dX5_captures_33 ?_
    refine zz_i (y := nI (fr + mm)) (nI_add fr mm) ?_
    refine zro_i (va_runS (As := [.long (lN oth), .int (nI (fr + mm))]) (rest := []) ⟨hx, hb, hml, hown, hts⟩ (c_X2_canBeTaken l oth (by omega) (fr + mm) (by omega)) (va_cwS 2 hts gX5_captures_X2_canBeTaken rfl rfl rfl (by decide +kernel) ⟨Nat.le_of_ble_eq_true rfl, Nat.le_of_ble_eq_true rfl⟩) zPu rfl rfl hl.1 rfl (lv_room (Nat.le_of_ble_eq_true rfl)) dX5_captures_34 ⟨Nat.zero_le _, Nat.zero_le _⟩) hP hS (fun H locs hP hS => ?_)
    refine lv_if_eq (tgt := 44) hx hb dX5_captures_37 (by decide) (fun c_37 => ?_) (fun c_37 => ?_)
    · skip
      have c_37 := bI_0.mp c_37
      refine lv_iconst (v := 0) hx hb dX5_captures_44 (by decide) ?_
      exact W.zret (v := 0) hx hb hr rfl (fun t ht hW => ⟨⟨_, (), rfl, (bI_f (by rw [c_12, c_37]; rfl)), trivial⟩, hS.F ht⟩) hS.2.2 dX5_captures_45
    · skip
      have c_37 := bI_1.mp c_37
      refine lv_iconst (v := 1) hx hb dX5_captures_40 (by decide) ?_
      refine lv_goto (tgt := 45) hx hb dX5_captures_41 (by decide) ?_
      exact W.zret (v := 1) hx hb hr rfl (fun t ht hW => ⟨⟨_, (), rfl, (bI_t (by rw [c_12, c_37]; rfl)), trivial⟩, hS.F ht⟩) hS.2.2 dX5_captures_45

set_option maxHeartbeats 4000000 in
set_option maxRecDepth 100000 in
theorem c_X5_begin_ok (l : Launch) (dC : Nat → ClassId) (dI : Nat → Nat → Nat) (cyI cyJ : ClassId) (ax a0 a1 ae aw ao aq tn9 : Nat) (pI tI mk wn cnt lo lq : Int32) (lx ly : Int64) (hsd : zSd tn9 a0 a1 ao aq) (j : Nat) (hj0 : 1 ≤ j) (hj : j ≤ 4) (hnd : [ax, ao, aq].Nodup) : Met l yX5_begin wsX5_begin ({ frames := 2, cells := 0, slots := 0, locals := 41 }) (zPc [.ref ax, .int (nI j)] (dC, dI) vwCl [(cyI, .int)] [(ax, .inr (2, [.ref a0, .ref a1, .ref ae, .ref aw, .int pI, .int tI, .int mk, .int wn, .int cnt])), (ao, .inr (1, [.long lx, .int lo])), (aq, .inr (1, [.long ly, .int lq]))] (fun _ => True)) (va_Qv (fun (_ : Unit) => True) (fun (u : Unit) t => va_P (dC, dI) vwCl ([(ax, .inr (2, [.ref a0, .ref a1, .ref ae, .ref aw, .int (nI j), .int 0, .int (-1), .int (-1), .int 0])), (ao, .inr (1, [.long (lN j), .int 0])), (aq, .inr (1, [.long (lN j), .int 0]))]) t.heap) (zA [ax, ao, aq])) 0 0 (zA [ax, ao, aq]) := by
  refine Met.ofW (cc := cX5_begin) (maxL := 2) (ret := none) (by decide) rfl ?_
  intro p e s m args below meth c s₁ B hml hv
  obtain ⟨rfl, hP, hK, hX⟩ := hv
  have hx := B.exec
  have hb := B.bytes
  have hr := B.returns
  have hts := atoms_spec (ws := wsX5_begin) B.pre
  have hown : s.vm.findClass RX5 = some m.cls := findClass_of_methodNamed B.named
  have hlocks := B.notSynchronized
  have hl := lv_entry ([.ref ax, .int (nI j)]) (n := 2) (Nat.le_of_ble_eq_true rfl)
  rw [lg_entry_eq]
  generalize (lg_sl ([.ref ax, .int (nI j)]) ++ List.replicate (2 - (lg_sl ([.ref ax, .int (nI j)])).length) Slot.unset).toArray = ls at hl ⊢
  have hl : lv_has ls 2 [(0, .ref ax), (1, .int (nI j))] := hl
  have hS : va_S (zA [ax, ao, aq]) s.heap s.heap [] := va_S.rf
  have hDD : zD (zA [ax, ao, aq]) [ax, ao, aq] := ⟨hnd, fun _ h => h⟩
  refine lv_iload_n hx hb dX5_begin_0 rfl (lv_at hl 1 rfl) ?_
  refine lv_iconst (v := 1) hx hb dX5_begin_1 (by decide) ?_
  refine lv_iconst (v := 4) hx hb dX5_begin_2 (by decide) ?_
  refine zro_v (va_runS (As := [.int (nI j), .int 1, .int 4]) (rest := []) ⟨hx, hb, hml, hown, hts⟩ (c_X5_refuseOutside_ok l (nI j) 1 4 (zlo1 (by omega) (by omega)) (zhi (x := j) (n := 4) (by omega) (by decide))) (va_cwS 3 hts gX5_begin_X5_refuseOutside rfl rfl rfl (by decide +kernel) ⟨Nat.le_of_ble_eq_true rfl, Nat.le_of_ble_eq_true rfl⟩) zPu rfl rfl hl.1 rfl (lv_room (Nat.le_of_ble_eq_true rfl)) dX5_begin_3 ⟨Nat.zero_le _, Nat.zero_le _⟩) hP hS (fun H locs hP hS => ?_)
  refine lv_aload_n hx hb dX5_begin_6 rfl (lv_at hl 0 rfl) ?_
  refine lv_iload_n hx hb dX5_begin_7 rfl (lv_at hl 1 rfl) ?_
  refine zrw_v (w1 := fun _ : Unit => [(ax, .inr (2, [.ref a0, .ref a1, .ref ae, .ref aw, .int (nI j), .int 0, .int (-1), .int (-1), .int 0])), (ao, .inr (1, [.long (lN j), .int 0])), (aq, .inr (1, [.long (lN j), .int 0]))]) (al := [ax, ao, aq]) (va_runV (As := [.int (nI j)]) (rest := []) ⟨hx, hb, hml, hown, hts⟩ (c_X5_setUp l dC dI cyI cyJ ax a0 a1 ae aw ao aq tn9 pI tI mk wn cnt lo lq lx ly hsd j (by omega) hDD.1) (cwV 1 hts gX5_begin_X5_setUp rfl rfl rfl (by decide +kernel) ⟨Nat.le_of_ble_eq_true rfl, Nat.le_of_ble_eq_true rfl⟩) (zPc_V (ci := 2) (q0 := 0) zB_T hP hK rfl rfl [0, 1, 2] rfl (fun _ _ _ => trivial)) rfl rfl hl.1 rfl (lv_room (Nat.le_of_ble_eq_true rfl)) dX5_begin_8 ⟨Nat.zero_le _, Nat.zero_le _⟩) hP hDD hS [0, 1, 2] rfl (fun _ => rfl) (fun u_8 H locs hw_8 hP hS => ?_)
  have hP : va_P (dC, dI) vwCl [(ax, .inr (2, [.ref a0, .ref a1, .ref ae, .ref aw, .int (nI j), .int 0, .int (-1), .int (-1), .int 0])), (ao, .inr (1, [.long (lN j), .int 0])), (aq, .inr (1, [.long (lN j), .int 0]))] H := hP
  exact W.vret hx hb hr (fun t ht hW => ⟨⟨(), rfl, trivial, zh ht hP⟩, hS.F ht⟩) hS.2.2 dX5_begin_11

set_option maxHeartbeats 4000000 in
set_option maxRecDepth 100000 in
theorem c_X5_worth_ok (l : Launch) (dC : Nat → ClassId) (dI : Nat → Nat → Nat) (cyI cyJ : ClassId) (tb ax a0 a1 ae aw at_ ao aq : Nat) (mk wn cnt lo lq : Int32) (wf : Nat → Int32) (k kk tn own oth mm : Nat) (hsd : zSd tn a0 a1 ao aq) (hO : zok k own) (hQ : zok k oth) (hk1 : 1 ≤ k) (hkk : kk ≤ 60) (htb : zTb kk wf) (hmk : zmk mk mm) (hmm : mm ≤ 4) (d : Nat) (hd : d ≤ 3) (hnd : [ax, ao, aq, ae, at_].Nodup) : Met l yX5_worth wsX5_worth ({ frames := 30, cells := 0, slots := 0, locals := 700 }) (zPc [.ref ax, .int (nI d)] (dC, dI) vwCl [(cyI, .int)] [(ax, .inr (2, [.ref a0, .ref a1, .ref ae, .ref aw, .int (nI k), .int (nI tn), .int mk, .int wn, .int cnt])), (ao, .inr (1, [.long (lN own), .int lo])), (aq, .inr (1, [.long (lN oth), .int lq])), (ae, .inr (0, [.ref at_, .int (nI kk)])), (at_, .inl (cyI, 13500, .inl wf))] (fun U => zX tb (zA [ax, ao, aq, ae, at_]) U U.heap)) (va_Qi (fun (r : Int32) (u : Nat × (Nat → Int32)) => r = (if tn = 0 then zWT k tn wn mk mm d own oth else 1000000000 - zWT k tn wn mk mm d own oth) ∧ zTb u.1 u.2 ∧ u.1 ≤ 60) (fun (u : Nat × (Nat → Int32)) t => va_P (dC, dI) vwCl ([(ax, .inr (2, [.ref a0, .ref a1, .ref ae, .ref aw, .int (nI k), .int (nI tn), .int mk, .int wn, .int cnt])), (ao, .inr (1, [.long (lN own), .int lo])), (aq, .inr (1, [.long (lN oth), .int lq])), (ae, .inr (0, [.ref at_, .int (nI u.1)])), (at_, .inl (cyI, 13500, .inl u.2))]) t.heap) (zA [ax, ao, aq, ae, at_])) 0 0 (zA [ax, ao, aq, ae, at_]) := by
  refine Met.ofW (cc := cX5_worth) (maxL := 3) (ret := (some .int)) (by decide) rfl ?_
  intro p e s m args below meth c s₁ B hml hv
  obtain ⟨rfl, hP, hK, hX⟩ := hv
  have hx := B.exec
  have hb := B.bytes
  have hr := B.returns
  have hts := atoms_spec (ws := wsX5_worth) B.pre
  have hown : s.vm.findClass RX5 = some m.cls := findClass_of_methodNamed B.named
  have hlocks := B.notSynchronized
  have hinX5 : ∀ w ∈ wsX50, w ∈ wsX5_worth := by decide +kernel
  have hl := lv_entry ([.ref ax, .int (nI d)]) (n := 3) (Nat.le_of_ble_eq_true rfl)
  rw [lg_entry_eq]
  generalize (lg_sl ([.ref ax, .int (nI d)]) ++ List.replicate (3 - (lg_sl ([.ref ax, .int (nI d)])).length) Slot.unset).toArray = ls at hl ⊢
  have hl : lv_has ls 3 [(0, .ref ax), (1, .int (nI d))] := hl
  have hS : va_S (zA [ax, ao, aq, ae, at_]) s.heap s.heap [] := va_S.rf
  have hDD : zD (zA [ax, ao, aq, ae, at_]) [ax, ao, aq, ae, at_] := ⟨hnd, fun _ h => h⟩
  have htn := zSd_le hsd
  refine lv_iload_n hx hb dX5_worth_0 rfl (lv_at hl 1 rfl) ?_
  refine lv_iconst (v := 0) hx hb dX5_worth_1 (by decide) ?_
  refine lv_iconst (v := 3) hx hb dX5_worth_2 (by decide) ?_
  refine zro_v (va_runS (As := [.int (nI d), .int 0, .int 3]) (rest := []) ⟨hx, hb, hml, hown, hts⟩ (c_X5_refuseOutside_ok l (nI d) 0 3 (zlo (by omega)) (zhi (x := d) (n := 3) (by omega) (by decide))) (va_cwS 3 hts gX5_worth_X5_refuseOutside rfl rfl rfl (by decide +kernel) ⟨(show 0 + 1 ≤ 30 by omega), (show 8 + (3 + 11) + 0 ≤ 700 by omega)⟩) zPu rfl rfl hl.1 rfl (lv_room (Nat.le_of_ble_eq_true rfl)) dX5_worth_3 ⟨Nat.zero_le _, Nat.zero_le _⟩) hP hS (fun H locs hP hS => ?_)
  refine lv_aload_n hx hb dX5_worth_6 rfl (lv_at hl 0 rfl) ?_
  refine lv_iload_n hx hb dX5_worth_7 rfl (lv_at hl 1 rfl) ?_
  refine zrw_i (w1 := fun u : Nat × (Nat → Int32) => [(ax, .inr (2, [.ref a0, .ref a1, .ref ae, .ref aw, .int (nI k), .int (nI tn), .int mk, .int wn, .int cnt])), (ao, .inr (1, [.long (lN own), .int lo])), (aq, .inr (1, [.long (lN oth), .int lq])), (ae, .inr (0, [.ref at_, .int (nI u.1)])), (at_, .inl (cyI, 13500, .inl u.2))]) (al := [ax, ao, aq, ae, at_]) (va_runV (As := [.int (nI d)]) (rest := []) ⟨hx, hb, hml, hown, hts⟩ (c_X5_worthForTurn l dC dI cyI cyJ tb ax a0 a1 ae aw at_ ao aq mk wn cnt lo lq wf k kk tn own oth mm d hsd hO hQ hk1 hkk htb hmk hmm (by omega) hDD.1) (cwV 1 hts gX5_worth_X5_worthForTurn rfl rfl rfl (by decide +kernel) ⟨(show 20 + 1 ≤ 30 by omega), (show 8 + (6 + 11) + 600 ≤ 700 by omega)⟩) (zPc_V (ci := 2) (q0 := 0) zB_X hP hK rfl rfl [0, 1, 2, 3, 4] rfl (zX_at hX hS (fun _ h => h))) rfl rfl hl.1 rfl (lv_room (Nat.le_of_ble_eq_true rfl)) dX5_worth_8 ⟨Nat.zero_le _, Nat.zero_le _⟩) hP hDD hS [0, 1, 2, 3, 4] rfl (fun _ => rfl) (fun r_8 u_8 H locs hw_8 hP hS => ?_)
  have hP : va_P (dC, dI) vwCl [(ax, .inr (2, [.ref a0, .ref a1, .ref ae, .ref aw, .int (nI k), .int (nI tn), .int mk, .int wn, .int cnt])), (ao, .inr (1, [.long (lN own), .int lo])), (aq, .inr (1, [.long (lN oth), .int lq])), (ae, .inr (0, [.ref at_, .int (nI u_8.1)])), (at_, .inl (cyI, 13500, .inl u_8.2))] H := hP
  refine lv_istore_n (lv' := [(2, .int r_8), (0, .ref ax), (1, .int (nI d))]) hx hb dX5_worth_11 rfl hl (by decide) rfl (fun ls hl => ?_)
  refine lv_aload_n hx hb dX5_worth_12 rfl (lv_at hl 1 rfl) ?_
  refine va_get (D := (dC, dI)) (ci := 2) (v := .int (nI tn)) (C := RX5) (T := TX5) (N := 9) hx hb hts hinX5 hown hK hP 0 rfl rfl 5 (by decide) (hts (.fieldLink RX5 59 "RoyalUrTable" "turn" "I") (List.mem_of_getElem? (i := 1) rfl)) (fun _ h9 => h9) rfl dX5_worth_13 ?_
  refine lv_if_ne (tgt := 23) hx hb dX5_worth_16 (by decide) (fun c_16 => ?_) (fun c_16 => ?_)
  · skip
    have c_16 : ¬ tn = 0 := fun h9 => c_16 ((nI_eq (a := tn) (b := 0) (by omega) (by omega)).mpr h9)
    refine lv_ldc (v := 1000000000) hx hb hown (hts (.constant RX5 105 (1000000000)) (List.mem_of_getElem? (i := 2) rfl)) dX5_worth_23 ?_
    refine lv_iload_n hx hb dX5_worth_25 rfl (lv_at hl 0 rfl) ?_
    refine lv_isub hx hb dX5_worth_26 ?_
    exact W.iret (v := 1000000000 - r_8) hx hb hr (fun t ht hW => ⟨⟨_, u_8, rfl, ⟨(by rw [if_neg c_16, hw_8.1]), hw_8.2.1, hw_8.2.2⟩, zh ht hP⟩, hS.F ht⟩) hS.2.2 dX5_worth_27
  · skip
    have c_16 : tn = 0 := (nI_eq (a := tn) (b := 0) (by omega) (by omega)).mp c_16
    refine lv_iload_n hx hb dX5_worth_19 rfl (lv_at hl 0 rfl) ?_
    refine lv_goto (tgt := 27) hx hb dX5_worth_20 (by decide) ?_
    exact W.iret (v := r_8) hx hb hr (fun t ht hW => ⟨⟨_, u_8, rfl, ⟨(by rw [if_pos c_16, hw_8.1]), hw_8.2.1, hw_8.2.2⟩, zh ht hP⟩, hS.F ht⟩) hS.2.2 dX5_worth_27

set_option maxHeartbeats 4000000 in
set_option maxRecDepth 100000 in
theorem c_X5_chance_ok (l : Launch) (dC : Nat → ClassId) (dI : Nat → Nat → Nat) (cyI cyJ : ClassId) (tb ax a0 a1 ae aw at_ ao aq : Nat) (mk wn cnt lo lq : Int32) (wf : Nat → Int32) (k kk tn own oth mm : Nat) (hsd : zSd tn a0 a1 ao aq) (hO : zok k own) (hQ : zok k oth) (hk1 : 1 ≤ k) (hkk : kk ≤ 60) (htb : zTb kk wf) (hmk : zmk mk mm) (hmm : mm ≤ 4) (d : Nat) (hd : d ≤ 3) (hnd : [ax, ao, aq, ae, at_].Nodup) : Met l yX5_chance wsX5_chance ({ frames := 30, cells := 0, slots := 0, locals := 700 }) (zPc [.ref ax, .int (nI d)] (dC, dI) vwCl [(cyI, .int)] [(ax, .inr (2, [.ref a0, .ref a1, .ref ae, .ref aw, .int (nI k), .int (nI tn), .int mk, .int wn, .int cnt])), (ao, .inr (1, [.long (lN own), .int lo])), (aq, .inr (1, [.long (lN oth), .int lq])), (ae, .inr (0, [.ref at_, .int (nI kk)])), (at_, .inl (cyI, 13500, .inl wf))] (fun U => zX tb (zA [ax, ao, aq, ae, at_]) U U.heap)) (va_Qd (fun (r : UInt64) (u : Nat × (Nat → Int32)) => r = zCh (zWT k tn wn mk mm d own oth) ∧ zTb u.1 u.2 ∧ u.1 ≤ 60) (fun (u : Nat × (Nat → Int32)) t => va_P (dC, dI) vwCl ([(ax, .inr (2, [.ref a0, .ref a1, .ref ae, .ref aw, .int (nI k), .int (nI tn), .int mk, .int wn, .int cnt])), (ao, .inr (1, [.long (lN own), .int lo])), (aq, .inr (1, [.long (lN oth), .int lq])), (ae, .inr (0, [.ref at_, .int (nI u.1)])), (at_, .inl (cyI, 13500, .inl u.2))]) t.heap) (zA [ax, ao, aq, ae, at_])) 0 0 (zA [ax, ao, aq, ae, at_]) := by
  refine Met.ofW (cc := cX5_chance) (maxL := 2) (ret := (some .double)) (by decide) rfl ?_
  intro p e s m args below meth c s₁ B hml hv
  obtain ⟨rfl, hP, hK, hX⟩ := hv
  have hx := B.exec
  have hb := B.bytes
  have hr := B.returns
  have hts := atoms_spec (ws := wsX5_chance) B.pre
  have hown : s.vm.findClass RX5 = some m.cls := findClass_of_methodNamed B.named
  have hlocks := B.notSynchronized
  have hl := lv_entry ([.ref ax, .int (nI d)]) (n := 2) (Nat.le_of_ble_eq_true rfl)
  rw [lg_entry_eq]
  generalize (lg_sl ([.ref ax, .int (nI d)]) ++ List.replicate (2 - (lg_sl ([.ref ax, .int (nI d)])).length) Slot.unset).toArray = ls at hl ⊢
  have hl : lv_has ls 2 [(0, .ref ax), (1, .int (nI d))] := hl
  have hS : va_S (zA [ax, ao, aq, ae, at_]) s.heap s.heap [] := va_S.rf
  have hDD : zD (zA [ax, ao, aq, ae, at_]) [ax, ao, aq, ae, at_] := ⟨hnd, fun _ h => h⟩
  generalize hQe : MQ below _ _ _ _ _ _ = Q
  have htn := zSd_le hsd
  refine lv_iload_n hx hb dX5_chance_0 rfl (lv_at hl 1 rfl) ?_
  refine lv_iconst (v := 0) hx hb dX5_chance_1 (by decide) ?_
  refine lv_iconst (v := 3) hx hb dX5_chance_2 (by decide) ?_
  refine zro_v (va_runS (As := [.int (nI d), .int 0, .int 3]) (rest := []) ⟨hx, hb, hml, hown, hts⟩ (c_X5_refuseOutside_ok l (nI d) 0 3 (zlo (by omega)) (zhi (x := d) (n := 3) (by omega) (by decide))) (va_cwS 3 hts gX5_chance_X5_refuseOutside rfl rfl rfl (by decide +kernel) ⟨(show 0 + 1 ≤ 30 by omega), (show 8 + (3 + 11) + 0 ≤ 700 by omega)⟩) zPu rfl rfl hl.1 rfl (lv_room (Nat.le_of_ble_eq_true rfl)) dX5_chance_3 ⟨Nat.zero_le _, Nat.zero_le _⟩) hP hS (fun H locs hP hS => ?_)
  refine lv_aload_n hx hb dX5_chance_6 rfl (lv_at hl 0 rfl) ?_
  refine lv_iload_n hx hb dX5_chance_7 rfl (lv_at hl 1 rfl) ?_
  refine zrw_i (w1 := fun u : Nat × (Nat → Int32) => [(ax, .inr (2, [.ref a0, .ref a1, .ref ae, .ref aw, .int (nI k), .int (nI tn), .int mk, .int wn, .int cnt])), (ao, .inr (1, [.long (lN own), .int lo])), (aq, .inr (1, [.long (lN oth), .int lq])), (ae, .inr (0, [.ref at_, .int (nI u.1)])), (at_, .inl (cyI, 13500, .inl u.2))]) (al := [ax, ao, aq, ae, at_]) (va_runV (As := [.int (nI d)]) (rest := []) ⟨hx, hb, hml, hown, hts⟩ (c_X5_worthForTurn l dC dI cyI cyJ tb ax a0 a1 ae aw at_ ao aq mk wn cnt lo lq wf k kk tn own oth mm d hsd hO hQ hk1 hkk htb hmk hmm (by omega) hDD.1) (cwV 1 hts gX5_chance_X5_worthForTurn rfl rfl rfl (by decide +kernel) ⟨(show 20 + 1 ≤ 30 by omega), (show 8 + (6 + 11) + 600 ≤ 700 by omega)⟩) (zPc_V (ci := 2) (q0 := 0) zB_X hP hK rfl rfl [0, 1, 2, 3, 4] rfl (zX_at hX hS (fun _ h => h))) rfl rfl hl.1 rfl (lv_room (Nat.le_of_ble_eq_true rfl)) dX5_chance_8 ⟨Nat.zero_le _, Nat.zero_le _⟩) hP hDD hS [0, 1, 2, 3, 4] rfl (fun _ => rfl) (fun r_8 u_8 H locs hw_8 hP hS => ?_)
  have hP : va_P (dC, dI) vwCl [(ax, .inr (2, [.ref a0, .ref a1, .ref ae, .ref aw, .int (nI k), .int (nI tn), .int mk, .int wn, .int cnt])), (ao, .inr (1, [.long (lN own), .int lo])), (aq, .inr (1, [.long (lN oth), .int lq])), (ae, .inr (0, [.ref at_, .int (nI u_8.1)])), (at_, .inl (cyI, 13500, .inl u_8.2))] H := hP
  refine lv_i2d hx hb dX5_chance_11 ?_
  refine lv_ldc2d (v := 4741671816366391296) hx hb hown (hts (.constantDouble RX5 106 (4741671816366391296)) (List.mem_of_getElem? (i := 1) rfl)) dX5_chance_12 ?_
  refine lv_ddiv hx hb dX5_chance_15 (zch r_8) ?_
  subst hQe
  exact W.dret (v := zCh r_8) hx hb hr (fun t ht hW => ⟨⟨_, u_8, rfl, ⟨(by rw [hw_8.1]), hw_8.2.1, hw_8.2.2⟩, zh ht hP⟩, hS.F ht⟩) hS.2.2 dX5_chance_16

set_option maxHeartbeats 4000000 in
set_option maxRecDepth 100000 in
theorem c_X5_ranked_ok (l : Launch) (dC : Nat → ClassId) (dI : Nat → Nat → Nat) (cyI cyJ : ClassId) (tb ax a0 a1 ae aw at_ ao aq : Nat) (mk wn cnt lo lq : Int32) (wf wb : Nat → Int32) (k kk tn own oth mm : Nat) (hsd : zSd tn a0 a1 ao aq) (hO : zok k own) (hQ : zok k oth) (hk1 : 1 ≤ k) (hkk : kk ≤ 60) (htb : zTb kk wf) (hmk : zmk mk mm) (hmm : mm ≤ 4) (d rk : Nat) (hd : d ≤ 3) (hrk : rk ≤ 15) (hnd : [ax, ao, aq, ae, at_, aw].Nodup) : Met l yX5_ranked wsX5_ranked ({ frames := 30, cells := 0, slots := 0, locals := 700 }) (zPc [.ref ax, .int (nI d), .int (nI rk)] (dC, dI) vwCl [(cyI, .int)] [(ax, .inr (2, [.ref a0, .ref a1, .ref ae, .ref aw, .int (nI k), .int (nI tn), .int mk, .int wn, .int cnt])), (ao, .inr (1, [.long (lN own), .int lo])), (aq, .inr (1, [.long (lN oth), .int lq])), (ae, .inr (0, [.ref at_, .int (nI kk)])), (at_, .inl (cyI, 13500, .inl wf)), (aw, .inl (cyI, 15, .inl wb))] (fun U => zX tb (zA [ax, ao, aq, ae, at_, aw]) U U.heap)) (va_Qi (fun (r : Int32) (u : Nat × (Nat → Int32) × (Nat → Int32)) => r = (if rk < zNum own oth mm 15 then zRk (zWB k d own oth mm) (nI rk) 0 15 else -1) ∧ zTb u.1 u.2.1 ∧ u.1 ≤ 60) (fun (u : Nat × (Nat → Int32) × (Nat → Int32)) t => va_P (dC, dI) vwCl ([(ax, .inr (2, [.ref a0, .ref a1, .ref ae, .ref aw, .int (nI k), .int (nI tn), .int mk, .int wn, .int cnt])), (ao, .inr (1, [.long (lN own), .int lo])), (aq, .inr (1, [.long (lN oth), .int lq])), (ae, .inr (0, [.ref at_, .int (nI u.1)])), (at_, .inl (cyI, 13500, .inl u.2.1)), (aw, .inl (cyI, 15, .inl u.2.2))]) t.heap) (zA [ax, ao, aq, ae, at_, aw])) 0 0 (zA [ax, ao, aq, ae, at_, aw]) := by
  refine Met.ofW (cc := cX5_ranked) (maxL := 5) (ret := (some .int)) (by decide) rfl ?_
  intro p e s m args below meth c s₁ B hml hv
  obtain ⟨rfl, hP, hK, hX⟩ := hv
  have hx := B.exec
  have hb := B.bytes
  have hr := B.returns
  have hts := atoms_spec (ws := wsX5_ranked) B.pre
  have hown : s.vm.findClass RX5 = some m.cls := findClass_of_methodNamed B.named
  have hlocks := B.notSynchronized
  have hinX5 : ∀ w ∈ wsX50, w ∈ wsX5_ranked := by decide +kernel
  have hl := lv_entry ([.ref ax, .int (nI d), .int (nI rk)]) (n := 5) (Nat.le_of_ble_eq_true rfl)
  rw [lg_entry_eq]
  generalize (lg_sl ([.ref ax, .int (nI d), .int (nI rk)]) ++ List.replicate (5 - (lg_sl ([.ref ax, .int (nI d), .int (nI rk)])).length) Slot.unset).toArray = ls at hl ⊢
  have hl : lv_has ls 5 [(0, .ref ax), (1, .int (nI d)), (2, .int (nI rk))] := hl
  have hS : va_S (zA [ax, ao, aq, ae, at_, aw]) s.heap s.heap [] := va_S.rf
  have hDD : zD (zA [ax, ao, aq, ae, at_, aw]) [ax, ao, aq, ae, at_, aw] := ⟨hnd, fun _ h => h⟩
  generalize hQe : MQ below _ _ _ _ _ _ = Q
  have htn := zSd_le hsd
  have hnl := zNum_le own oth mm 15
  refine lv_iload_n hx hb dX5_ranked_0 rfl (lv_at hl 1 rfl) ?_
  refine lv_iconst (v := 0) hx hb dX5_ranked_1 (by decide) ?_
  refine lv_iconst (v := 3) hx hb dX5_ranked_2 (by decide) ?_
  refine zro_v (va_runS (As := [.int (nI d), .int 0, .int 3]) (rest := []) ⟨hx, hb, hml, hown, hts⟩ (c_X5_refuseOutside_ok l (nI d) 0 3 (zlo (by omega)) (zhi (x := d) (n := 3) (by omega) (by decide))) (va_cwS 3 hts gX5_ranked_X5_refuseOutside rfl rfl rfl (by decide +kernel) ⟨(show 0 + 1 ≤ 30 by omega), (show 8 + (3 + 11) + 0 ≤ 700 by omega)⟩) zPu rfl rfl hl.1 rfl (lv_room (Nat.le_of_ble_eq_true rfl)) dX5_ranked_3 ⟨Nat.zero_le _, Nat.zero_le _⟩) hP hS (fun H locs hP hS => ?_)
  refine lv_iload_n hx hb dX5_ranked_6 rfl (lv_at hl 2 rfl) ?_
  refine lv_if_ge (tgt := 18) hx hb dX5_ranked_7 (by decide) (fun c_7 => ?_) (fun c_7 => ?_)
  · skip
    have c_7 : 0 ≤ rk := (nI_leI (a := 0) (b := rk) (by omega) (by omega)).mp c_7
    refine lv_iload_n hx hb dX5_ranked_18 rfl (lv_at hl 2 rfl) ?_
    refine lv_aload_n hx hb dX5_ranked_19 rfl (lv_at hl 0 rfl) ?_
    refine lv_aload_n hx hb dX5_ranked_20 rfl (lv_at hl 0 rfl) ?_
    refine va_get (D := (dC, dI)) (ci := 2) (v := .int mk) (C := RX5) (T := TX5) (N := 9) hx hb hts hinX5 hown hK hP 0 rfl rfl 6 (by decide) (hts (.fieldLink RX5 46 "RoyalUrTable" "marksTold" "I") (List.mem_of_getElem? (i := 3) rfl)) (fun _ h9 => h9) rfl dX5_ranked_21 ?_
    refine zro_i (va_runV (As := [.int mk]) (rest := [.int (nI rk)]) ⟨hx, hb, hml, hown, hts⟩ (c_X5_countMoves l dC dI cyI cyJ ax a0 a1 ae aw ao aq mk wn cnt lo lq k tn own oth hsd hO hQ mm mk hmk hmm) (cwV 1 hts gX5_ranked_X5_countMoves rfl rfl rfl (by decide +kernel) ⟨(show 2 + 1 ≤ 30 by omega), (show 8 + (8 + 11) + 48 ≤ 700 by omega)⟩) (zPc_V (ci := 2) (q0 := 0) zB_T hP hK rfl rfl [0, 1, 2] rfl (fun _ _ _ => trivial)) rfl rfl hl.1 rfl (lv_room (Nat.le_of_ble_eq_true rfl)) dX5_ranked_24 ⟨Nat.zero_le _, Nat.zero_le _⟩) hP hS (fun H locs hP hS => ?_)
    refine lv_icmp_lt (tgt := 32) hx hb dX5_ranked_27 (by decide) (fun c_27 => ?_) (fun c_27 => ?_)
    · skip
      have c_27 : rk < (zNum own oth mm 15) := (nI_ltI (a := rk) (b := zNum own oth mm 15) (by omega) (by omega)).mp c_27
      refine lv_aload_n hx hb dX5_ranked_32 rfl (lv_at hl 0 rfl) ?_
      refine lv_iload_n hx hb dX5_ranked_33 rfl (lv_at hl 1 rfl) ?_
      refine zrw_v (w1 := fun u : Nat × (Nat → Int32) × (Nat → Int32) => [(ax, .inr (2, [.ref a0, .ref a1, .ref ae, .ref aw, .int (nI k), .int (nI tn), .int mk, .int wn, .int cnt])), (ao, .inr (1, [.long (lN own), .int lo])), (aq, .inr (1, [.long (lN oth), .int lq])), (ae, .inr (0, [.ref at_, .int (nI u.1)])), (at_, .inl (cyI, 13500, .inl u.2.1)), (aw, .inl (cyI, 15, .inl u.2.2))]) (al := [ax, ao, aq, ae, at_, aw]) (va_runV (As := [.int (nI d)]) (rest := []) ⟨hx, hb, hml, hown, hts⟩ (c_X5_noteWorthsBehind l dC dI cyI cyJ tb ax a0 a1 ae aw at_ ao aq mk wn cnt lo lq wf wb k kk tn own oth mm d hsd hO hQ hk1 hkk htb hmk hmm (by omega) hDD.1) (cwV 1 hts gX5_ranked_X5_noteWorthsBehind rfl rfl rfl (by decide +kernel) ⟨(show 20 + 1 ≤ 30 by omega), (show 8 + (8 + 11) + 600 ≤ 700 by omega)⟩) (zPc_V (ci := 2) (q0 := 0) zB_X hP hK rfl rfl [0, 1, 2, 3, 4, 5] rfl (zX_at hX hS (fun _ h => h))) rfl rfl hl.1 rfl (lv_room (Nat.le_of_ble_eq_true rfl)) dX5_ranked_34 ⟨Nat.zero_le _, Nat.zero_le _⟩) hP hDD hS [0, 1, 2, 3, 4, 5] rfl (fun _ => rfl) (fun u_34 H locs hw_34 hP hS => ?_)
      have hP : va_P (dC, dI) vwCl [(ax, .inr (2, [.ref a0, .ref a1, .ref ae, .ref aw, .int (nI k), .int (nI tn), .int mk, .int wn, .int cnt])), (ao, .inr (1, [.long (lN own), .int lo])), (aq, .inr (1, [.long (lN oth), .int lq])), (ae, .inr (0, [.ref at_, .int (nI u_34.1)])), (at_, .inl (cyI, 13500, .inl u_34.2.1)), (aw, .inl (cyI, 15, .inl u_34.2.2))] H := hP
      refine lv_iconst (v := 0) hx hb dX5_ranked_37 (by decide) ?_
      refine lv_istore_n (lv' := [(3, .int 0), (0, .ref ax), (1, .int (nI d)), (2, .int (nI rk))]) hx hb dX5_ranked_38 rfl hl (by decide) rfl (fun ls hl => ?_)
      have lp : ∀ (n9 : Nat) (i : Nat) (j : Nat), i + j = 15 → zRk u_34.2.2 (nI rk) 0 15 = zRk u_34.2.2 (nI rk) i j → 15 - i < n9 → ∀ (H : Heap) (locs : List Loc), va_P (dC, dI) vwCl [(ax, .inr (2, [.ref a0, .ref a1, .ref ae, .ref aw, .int (nI k), .int (nI tn), .int mk, .int wn, .int cnt])), (ao, .inr (1, [.long (lN own), .int lo])), (aq, .inr (1, [.long (lN oth), .int lq])), (ae, .inr (0, [.ref at_, .int (nI u_34.1)])), (at_, .inl (cyI, 13500, .inl u_34.2.1)), (aw, .inl (cyI, 15, .inl u_34.2.2))] H → va_S (zA [ax, ao, aq, ae, at_, aw]) s.heap H locs → ∀ ls : Array Slot, lv_has ls 5 [(3, .int (nI i)), (0, .ref ax), (1, .int (nI d)), (2, .int (nI rk))] → W p l e (headSpec wsX5_ranked ({ frames := 30, cells := 0, slots := 0, locals := 700 })).room s m ([.ref ax, .int (nI d), .int (nI rk)] : List Value).toArray below meth c H locs 0 0 Q (F0 m 39 ls []) := by
        intro n9
        induction n9 with
        | zero => intro i j hi2 hf hm9; exact absurd hm9 (Nat.not_lt_zero _)
        | succ n9 ih39 =>
          intro i j hi2 hf hm9 H locs hP hS ls hl
          refine lv_iload_n hx hb dX5_ranked_39 rfl (lv_at hl 0 rfl) ?_
          refine lv_aload_n hx hb dX5_ranked_40 rfl (lv_at hl 1 rfl) ?_
          refine va_get (D := (dC, dI)) (ci := 2) (v := .ref aw) (C := RX5) (T := TX5) (N := 9) hx hb hts hinX5 hown hK hP 0 rfl rfl 3 (by decide) (hts (.fieldLink RX5 28 "RoyalUrTable" "worthsBehind" "[I") (List.mem_of_getElem? (i := 4) rfl)) (fun _ h9 => h9) rfl dX5_ranked_41 ?_
          refine va_alen (v := 15) hx hb hK hP 5 0 rfl rfl rfl dX5_ranked_44 ?_
          refine lv_icmp_ge (tgt := 81) hx hb dX5_ranked_45 (by decide) (fun c_45 => ?_) (fun c_45 => ?_)
          · skip
            have c_45 : 15 ≤ i := (nI_leI (a := 15) (b := i) (by omega) (by omega)).mp c_45
            refine lv_iconst (v := -1) hx hb dX5_ranked_81 (by decide) ?_
            subst hQe
            exact W.iret (v := -1) hx hb hr (fun t ht hW => ⟨⟨_, u_34, rfl, ⟨(by rw [if_pos c_27, ← zRk_congr hw_34.2.2 (nI rk) 15 0 (by omega), hf]; rw [show j = 0 by omega]; rfl), hw_34.1, hw_34.2.1⟩, zh ht hP⟩, hS.F ht⟩) hS.2.2 dX5_ranked_82
          · skip
            have c_45 : ¬ 15 ≤ i := fun h9 => c_45 ((nI_leI (a := 15) (b := i) (by omega) (by omega)).mpr h9)
            refine lv_aload_n hx hb dX5_ranked_48 rfl (lv_at hl 1 rfl) ?_
            refine va_get (D := (dC, dI)) (ci := 2) (v := .ref aw) (C := RX5) (T := TX5) (N := 9) hx hb hts hinX5 hown hK hP 0 rfl rfl 3 (by decide) (hts (.fieldLink RX5 28 "RoyalUrTable" "worthsBehind" "[I") (List.mem_of_getElem? (i := 4) rfl)) (fun _ h9 => h9) rfl dX5_ranked_49 ?_
            refine lv_iload_n hx hb dX5_ranked_52 rfl (lv_at hl 0 rfl) ?_
            refine zi_iald hx hb hK hP 5 0 rfl rfl (j := i) rfl (by omega) (by decide) dX5_ranked_53 ?_
            refine lv_istore (lv' := [(4, .int (u_34.2.2 i)), (3, .int (nI i)), (0, .ref ax), (1, .int (nI d)), (2, .int (nI rk))]) hx hb dX5_ranked_54 hl (by decide) rfl (fun ls hl => ?_)
            refine lv_iload hx hb dX5_ranked_56 (lv_at hl 0 rfl) ?_
            refine lv_iconst (v := -1) hx hb dX5_ranked_58 (by decide) ?_
            refine lv_icmp_eq (tgt := 75) hx hb dX5_ranked_59 (by decide) (fun c_59 => ?_) (fun c_59 => ?_)
            · skip
              refine lv_iinc (v := nI (i + 1)) (lv' := [(3, .int (nI (i + 1))), (4, .int (u_34.2.2 i)), (0, .ref ax), (1, .int (nI d)), (2, .int (nI rk))]) hx hb dX5_ranked_75 hl (k := 1) rfl (nI_1 i) (by decide) rfl (fun ls hl => ?_)
              refine lv_goto (tgt := 39) hx hb dX5_ranked_78 (by decide) ?_
              exact ih39 (i + 1) (j - 1) (by omega) (by rw [hf]; obtain ⟨j9, rfl⟩ : ∃ j9, j = j9 + 1 := ⟨j - 1, by omega⟩; rw [zRk_s, if_neg (fun h => h.1 c_59)]; rfl) (by omega) _ _ hP hS _ (lv_sub hl [0, 2, 3, 4] rfl)
            · skip
              refine lv_aload_n hx hb dX5_ranked_62 rfl (lv_at hl 2 rfl) ?_
              refine lv_iload_n hx hb dX5_ranked_63 rfl (lv_at hl 1 rfl) ?_
              refine lv_iload hx hb dX5_ranked_64 (lv_at hl 0 rfl) ?_
              refine zro_i (va_runV (As := [.int (nI i), .int (u_34.2.2 i)]) (rest := []) ⟨hx, hb, hml, hown, hts⟩ (c_X5_countBetter l dC dI cyI cyJ ax a0 a1 ae aw (nI k) (nI tn) mk wn cnt u_34.2.2 i (by omega) (u_34.2.2 i)) (cwV 2 hts gX5_ranked_X5_countBetter rfl rfl rfl (by decide +kernel) ⟨(show 0 + 1 ≤ 30 by omega), (show 8 + (5 + 11) + 0 ≤ 700 by omega)⟩) (zPc_V (ci := 2) (q0 := 0) zB_T hP hK rfl rfl [0, 5] rfl (fun _ _ _ => trivial)) rfl rfl hl.1 rfl (lv_room (Nat.le_of_ble_eq_true rfl)) dX5_ranked_66 ⟨Nat.zero_le _, Nat.zero_le _⟩) hP hS (fun H locs hP hS => ?_)
              refine lv_iload_n hx hb dX5_ranked_69 rfl (lv_at hl 4 rfl) ?_
              refine lv_icmp_ne (tgt := 75) hx hb dX5_ranked_70 (by decide) (fun c_70 => ?_) (fun c_70 => ?_)
              · skip
                refine lv_iinc (v := nI (i + 1)) (lv' := [(3, .int (nI (i + 1))), (4, .int (u_34.2.2 i)), (0, .ref ax), (1, .int (nI d)), (2, .int (nI rk))]) hx hb dX5_ranked_75 hl (k := 1) rfl (nI_1 i) (by decide) rfl (fun ls hl => ?_)
                refine lv_goto (tgt := 39) hx hb dX5_ranked_78 (by decide) ?_
                exact ih39 (i + 1) (j - 1) (by omega) (by rw [hf]; obtain ⟨j9, rfl⟩ : ∃ j9, j = j9 + 1 := ⟨j - 1, by omega⟩; rw [zRk_s, if_neg (fun h => c_70 h.2)]; rfl) (by omega) _ _ hP hS _ (lv_sub hl [0, 2, 3, 4] rfl)
              · skip
                refine lv_iload_n hx hb dX5_ranked_73 rfl (lv_at hl 1 rfl) ?_
                subst hQe
                exact W.iret (v := nI i) hx hb hr (fun t ht hW => ⟨⟨_, u_34, rfl, ⟨(by rw [if_pos c_27, ← zRk_congr hw_34.2.2 (nI rk) 15 0 (by omega), hf]; obtain ⟨j9, rfl⟩ : ∃ j9, j = j9 + 1 := ⟨j - 1, by omega⟩; rw [zRk_s, if_pos ⟨c_59, c_70⟩]), hw_34.1, hw_34.2.1⟩, zh ht hP⟩, hS.F ht⟩) hS.2.2 dX5_ranked_74
      exact lp 16 0 15 (by omega) rfl (by omega) _ _ hP hS _ (lv_sub hl [0, 1, 2, 3] rfl)
    · skip
      have c_27 : ¬ rk < (zNum own oth mm 15) := fun h9 => c_27 ((nI_ltI (a := rk) (b := zNum own oth mm 15) (by omega) (by omega)).mpr h9)
      refine lv_iconst (v := -1) hx hb dX5_ranked_30 (by decide) ?_
      subst hQe
      exact W.iret (v := -1) hx hb hr (fun t ht hW => ⟨⟨_, (kk, wf, wb), rfl, ⟨(by rw [if_neg c_27]), htb, hkk⟩, zh ht hP⟩, hS.F ht⟩) hS.2.2 dX5_ranked_31
  · skip
    have c_7 : ¬ 0 ≤ rk := fun h9 => c_7 ((nI_leI (a := 0) (b := rk) (by omega) (by omega)).mpr h9)
    exact absurd (Nat.zero_le _) c_7

set_option maxHeartbeats 4000000 in
set_option maxRecDepth 100000 in
theorem c_X5_ending_ok (l : Launch) (dC : Nat → ClassId) (dI : Nat → Nat → Nat) (cyI cyJ : ClassId) (tb ax a0 a1 ae aw at_ : Nat) (pI tI mk wn cnt : Int32) (wf : Nat → Int32) (kk : Nat) (hkk : kk ≤ 60) (htb : zTb kk wf) (a b9 rr : Nat) (ha : a ≤ 14) (hb9 : b9 ≤ 14) (hrr : rr ≤ 60) (hne : ¬ (a = b9 ∧ zshr a = true)) (hnd : [ax, ae, at_].Nodup) : Met l yX5_ending wsX5_ending ({ frames := 6, cells := 0, slots := 0, locals := 152 }) (zPc [.ref ax, .int (nI a), .int (nI b9), .int (nI rr)] (dC, dI) vwCl [(cyI, .int)] [(ax, .inr (2, [.ref a0, .ref a1, .ref ae, .ref aw, .int pI, .int tI, .int mk, .int wn, .int cnt])), (ae, .inr (0, [.ref at_, .int (nI kk)])), (at_, .inl (cyI, 13500, .inl wf))] (fun U => zX tb (zA [ax, ae, at_]) U U.heap)) (va_Qi (fun (r : Int32) (u : Nat × (Nat → Int32)) => r = nI (zE rr a b9) ∧ zTb u.1 u.2 ∧ u.1 ≤ 60) (fun (u : Nat × (Nat → Int32)) t => va_P (dC, dI) vwCl ([(ax, .inr (2, [.ref a0, .ref a1, .ref ae, .ref aw, .int pI, .int tI, .int mk, .int wn, .int cnt])), (ae, .inr (0, [.ref at_, .int (nI u.1)])), (at_, .inl (cyI, 13500, .inl u.2))]) t.heap) (zA [ax, ae, at_])) 0 0 (zA [ax, ae, at_]) := by
  refine Met.ofW (cc := cX5_ending) (maxL := 4) (ret := (some .int)) (by decide) rfl ?_
  intro p e s m args below meth c s₁ B hml hv
  obtain ⟨rfl, hP, hK, hX⟩ := hv
  have hx := B.exec
  have hb := B.bytes
  have hr := B.returns
  have hts := atoms_spec (ws := wsX5_ending) B.pre
  have hown : s.vm.findClass RX5 = some m.cls := findClass_of_methodNamed B.named
  have hlocks := B.notSynchronized
  have hinX5 : ∀ w ∈ wsX50, w ∈ wsX5_ending := by decide +kernel
  have hl := lv_entry ([.ref ax, .int (nI a), .int (nI b9), .int (nI rr)]) (n := 4) (Nat.le_of_ble_eq_true rfl)
  rw [lg_entry_eq]
  generalize (lg_sl ([.ref ax, .int (nI a), .int (nI b9), .int (nI rr)]) ++ List.replicate (4 - (lg_sl ([.ref ax, .int (nI a), .int (nI b9), .int (nI rr)])).length) Slot.unset).toArray = ls at hl ⊢
  have hl : lv_has ls 4 [(0, .ref ax), (1, .int (nI a)), (2, .int (nI b9)), (3, .int (nI rr))] := hl
  have hS : va_S (zA [ax, ae, at_]) s.heap s.heap [] := va_S.rf
  have hDD : zD (zA [ax, ae, at_]) [ax, ae, at_] := ⟨hnd, fun _ h => h⟩
  refine lv_iload_n hx hb dX5_ending_0 rfl (lv_at hl 1 rfl) ?_
  refine lv_iload_n hx hb dX5_ending_1 rfl (lv_at hl 2 rfl) ?_
  refine zro_v (va_runS (As := [.int (nI a), .int (nI b9)]) (rest := []) ⟨hx, hb, hml, hown, hts⟩ (c_X5_refuseEnding_ok l a b9 (by omega) (by omega) hne) (va_cwS 2 hts gX5_ending_X5_refuseEnding rfl rfl rfl (by decide +kernel) ⟨Nat.le_of_ble_eq_true rfl, Nat.le_of_ble_eq_true rfl⟩) zPu rfl rfl hl.1 rfl (lv_room (Nat.le_of_ble_eq_true rfl)) dX5_ending_2 ⟨Nat.zero_le _, Nat.zero_le _⟩) hP hS (fun H locs hP hS => ?_)
  refine lv_iload_n hx hb dX5_ending_5 rfl (lv_at hl 3 rfl) ?_
  refine lv_iconst (v := 0) hx hb dX5_ending_6 (by decide) ?_
  refine lv_bipush (v := 60) hx hb dX5_ending_7 (by decide) ?_
  refine zro_v (va_runS (As := [.int (nI rr), .int 0, .int 60]) (rest := []) ⟨hx, hb, hml, hown, hts⟩ (c_X5_refuseOutside_ok l (nI rr) 0 60 (zlo (by omega)) (zhi (x := rr) (n := 60) (by omega) (by decide))) (va_cwS 3 hts gX5_ending_X5_refuseOutside rfl rfl rfl (by decide +kernel) ⟨Nat.le_of_ble_eq_true rfl, Nat.le_of_ble_eq_true rfl⟩) zPu rfl rfl hl.1 rfl (lv_room (Nat.le_of_ble_eq_true rfl)) dX5_ending_9 ⟨Nat.zero_le _, Nat.zero_le _⟩) hP hS (fun H locs hP hS => ?_)
  refine lv_aload_n hx hb dX5_ending_12 rfl (lv_at hl 0 rfl) ?_
  refine va_get (D := (dC, dI)) (ci := 2) (v := .ref ae) (C := RX5) (T := TX5) (N := 9) hx hb hts hinX5 hown hK hP 0 rfl rfl 2 (by decide) (hts (.fieldLink RX5 22 "RoyalUrTable" "endings" "LRoyalUrTable$Endings;") (List.mem_of_getElem? (i := 1) rfl)) (fun _ h9 => h9) rfl dX5_ending_13 ?_
  refine lv_iload_n hx hb dX5_ending_16 rfl (lv_at hl 3 rfl) ?_
  refine zrw_v (w1 := fun u : Nat × (Nat → Int32) => [(ae, .inr (0, [.ref at_, .int (nI u.1)])), (at_, .inl (cyI, 13500, .inl u.2))]) (al := [ae, at_]) (va_runV (As := [.int (nI rr)]) (rest := []) ⟨hx, hb, hml, hown, hts⟩ (c_X1_fillUpTo l dC dI cyI cyJ tb ae at_ wf kk rr hkk (by omega) htb (z_nd hDD.1 [1, 2] (by decide) rfl)) (cwV 1 hts gX5_ending_X1_fillUpTo rfl rfl rfl (by decide +kernel) ⟨Nat.le_of_ble_eq_true rfl, Nat.le_of_ble_eq_true rfl⟩) (zPc_V (ci := 0) (q0 := 1) zB_X hP hK rfl rfl [1, 2] rfl (zX_at hX hS (zA_pl (al := [ax, ae, at_]) (bl := [ae, at_]) [1, 2] rfl))) rfl rfl hl.1 rfl (lv_room (Nat.le_of_ble_eq_true rfl)) dX5_ending_17 ⟨Nat.zero_le _, Nat.zero_le _⟩) hP hDD hS [1, 2] rfl (fun _ => rfl) (fun u_17 H locs hw_17 hP hS => ?_)
  have hP : va_P (dC, dI) vwCl [(ax, .inr (2, [.ref a0, .ref a1, .ref ae, .ref aw, .int pI, .int tI, .int mk, .int wn, .int cnt])), (ae, .inr (0, [.ref at_, .int (nI u_17.1)])), (at_, .inl (cyI, 13500, .inl u_17.2))] H := hP
  refine lv_aload_n hx hb dX5_ending_20 rfl (lv_at hl 0 rfl) ?_
  refine va_get (D := (dC, dI)) (ci := 2) (v := .ref ae) (C := RX5) (T := TX5) (N := 9) hx hb hts hinX5 hown hK hP 0 rfl rfl 2 (by decide) (hts (.fieldLink RX5 22 "RoyalUrTable" "endings" "LRoyalUrTable$Endings;") (List.mem_of_getElem? (i := 1) rfl)) (fun _ h9 => h9) rfl dX5_ending_21 ?_
  refine lv_iload_n hx hb dX5_ending_24 rfl (lv_at hl 1 rfl) ?_
  refine lv_iload_n hx hb dX5_ending_25 rfl (lv_at hl 2 rfl) ?_
  refine lv_iload_n hx hb dX5_ending_26 rfl (lv_at hl 3 rfl) ?_
  refine zro_i (va_runV (As := [.int (nI a), .int (nI b9), .int (nI rr)]) (rest := []) ⟨hx, hb, hml, hown, hts⟩ (c_X1_held l dC dI cyI cyJ ae at_ (nI u_17.1) u_17.2 u_17.1 hw_17.2.2 hw_17.1 a b9 rr (by omega) (by omega) hw_17.2.1) (cwV 3 hts gX5_ending_X1_held rfl rfl rfl (by decide +kernel) ⟨Nat.le_of_ble_eq_true rfl, Nat.le_of_ble_eq_true rfl⟩) (zPc_V (ci := 0) (q0 := 1) zB_T hP hK rfl rfl [1, 2] rfl (fun _ _ _ => trivial)) rfl rfl hl.1 rfl (lv_room (Nat.le_of_ble_eq_true rfl)) dX5_ending_27 ⟨Nat.zero_le _, Nat.zero_le _⟩) hP hS (fun H locs hP hS => ?_)
  exact W.iret (v := nI (zE rr a b9)) hx hb hr (fun t ht hW => ⟨⟨_, u_17, rfl, ⟨rfl, hw_17.1, hw_17.2.2⟩, zh ht hP⟩, hS.F ht⟩) hS.2.2 dX5_ending_30

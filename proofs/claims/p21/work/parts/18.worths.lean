/-! worths, ranks, endings: the calls -/
set_option maxHeartbeats 4000000 in
set_option maxRecDepth 100000 in
theorem c_X5_worth (l : Launch) (hl0 : l.stackTraces = false) (dC : Nat → ClassId) (dI : Nat → Nat → Nat) (cyI cyJ : ClassId) (tb ax a0 a1 ae aw at_ ao aq : Nat) (mk wn cnt lo lq : Int32) (wf : Nat → Int32) (k kk tn own oth mm : Nat) (hsd : zSd tn a0 a1 ao aq) (hO : zok k own) (hQ : zok k oth) (hk1 : 1 ≤ k) (hkk : kk ≤ 60) (htb : zTb kk wf) (hmk : zmk mk mm) (hmm : mm ≤ 4) (v : Int32) (hnd : [ax, ao, aq, ae, at_].Nodup) : vx_Met l yX5_worth wsX5_worth ({ frames := 30, cells := 1, slots := 6, locals := 700 }) (zPc [.ref ax, .int v] (dC, dI) vwCl [(cyI, .int)] [(ax, .inr (2, [.ref a0, .ref a1, .ref ae, .ref aw, .int (nI k), .int (nI tn), .int mk, .int wn, .int cnt])), (ao, .inr (1, [.long (lN own), .int lo])), (aq, .inr (1, [.long (lN oth), .int lq])), (ae, .inr (0, [.ref at_, .int (nI kk)])), (at_, .inl (cyI, 13500, .inl wf))] (fun U => zG tb (zA [ax, ao, aq, ae, at_]) U U.heap)) (va_Qi (fun (r : Int32) (u : Nat × (Nat → Int32)) => ∃ d, d ≤ 3 ∧ v = nI d ∧ zTb u.1 u.2 ∧ u.1 ≤ 60 ∧ r = (if tn = 0 then zWT k tn wn mk mm d own oth else 1000000000 - zWT k tn wn mk mm d own oth)) (fun (u : Nat × (Nat → Int32)) t => va_P (dC, dI) vwCl ([(ax, .inr (2, [.ref a0, .ref a1, .ref ae, .ref aw, .int (nI k), .int (nI tn), .int mk, .int wn, .int cnt])), (ao, .inr (1, [.long (lN own), .int lo])), (aq, .inr (1, [.long (lN oth), .int lq])), (ae, .inr (0, [.ref at_, .int (nI u.1)])), (at_, .inl (cyI, 13500, .inl u.2))]) t.heap) (zA [ax, ao, aq, ae, at_])) (vx_X (fun (_ : Unit) => True) (fun (E : String) _ _ => E = zIA ∧ ¬ (0 ≤ v ∧ v ≤ 3)) zF) 1 6 (zA [ax, ao, aq, ae, at_]) := by
  refine vx_ofW (cc := cX5_worth) (maxL := 3) (ret := (some .int)) (by decide) rfl ?_
  intro p e s m args below meth c s₁ B hml hnt hv
  obtain ⟨rfl, hP, hK, hX⟩ := hv
  have hx := B.exec
  have hb := B.bytes
  have hr := B.returns
  have hts := atoms_spec (ws := wsX5_worth) B.pre
  have hown : s.vm.findClass RX5 = some m.cls := findClass_of_methodNamed B.named
  have hlocks := B.notSynchronized
  have hinX5 : ∀ w ∈ wsX50, w ∈ wsX5_worth := by decide +kernel
  have hl := lv_entry ([.ref ax, .int v]) (n := 3) (Nat.le_of_ble_eq_true rfl)
  rw [lg_entry_eq]
  generalize (lg_sl ([.ref ax, .int v]) ++ List.replicate (3 - (lg_sl ([.ref ax, .int v])).length) Slot.unset).toArray = ls at hl ⊢
  have hl : lv_has ls 3 [(0, .ref ax), (1, .int v)] := hl
  have hS : va_S zF s.heap s.heap [] := va_S.rf
  have hl9 := hl.1.trans hml.symm
  have hY : zY zF s s.heap := (hX.2).narrow zF_A
  have hDD : zD (zA [ax, ao, aq, ae, at_]) [ax, ao, aq, ae, at_] := ⟨hnd, fun _ h => h⟩
  have htn := zSd_le hsd
  refine lv_iload_n hx hb dX5_worth_0 rfl (lv_at hl 1 rfl) ?_
  refine lv_iconst (v := 0) hx hb dX5_worth_1 (by decide) ?_
  refine lv_iconst (v := 3) hx hb dX5_worth_2 (by decide) ?_
  refine zth_v (m1 := 1) (s1 := 6) (vx_runS (As := [.int v, .int 0, .int 3]) (rest := []) ⟨hx, hb, hml, hown, hts⟩ (c_X5_refuseOutside l hl0 v 0 3) (va_cwS 3 hts gX5_worth_X5_refuseOutside rfl rfl rfl (by decide +kernel) ⟨(show 6 + 1 ≤ 30 by omega), (show 8 + (3 + 11) + 90 ≤ 700 by omega)⟩) (zPx zB_Y (zY_at hY hS zF_A)) rfl rfl hl.1 rfl (lv_room (Nat.le_of_ble_eq_true rfl)) dX5_worth_3 ⟨Nat.le_of_ble_eq_true rfl, Nat.le_of_ble_eq_true rfl⟩) hP hS (fun x hx9 => (hnt x hx9).elim) hlocks (fun hN t ht => ⟨(), trivial, ⟨rfl, hN⟩, ht⟩) (Nat.le_of_ble_eq_true rfl) (Nat.le_of_ble_eq_true rfl) (fun H locs hG_3 hP hS => ?_)
  obtain ⟨d, hd, rfl⟩ := (zin_iff (n := 3) (by decide)).mp hG_3
  have hS : va_S (zA [ax, ao, aq, ae, at_]) s.heap H locs := zS_w hS
  refine lv_aload_n hx hb dX5_worth_6 rfl (lv_at hl 0 rfl) ?_
  refine lv_iload_n hx hb dX5_worth_7 rfl (lv_at hl 1 rfl) ?_
  refine zrw_i (w1 := fun u : Nat × (Nat → Int32) => [(ax, .inr (2, [.ref a0, .ref a1, .ref ae, .ref aw, .int (nI k), .int (nI tn), .int mk, .int wn, .int cnt])), (ao, .inr (1, [.long (lN own), .int lo])), (aq, .inr (1, [.long (lN oth), .int lq])), (ae, .inr (0, [.ref at_, .int (nI u.1)])), (at_, .inl (cyI, 13500, .inl u.2))]) (al := [ax, ao, aq, ae, at_]) (va_runV (As := [.int (nI d)]) (rest := []) ⟨hx, hb, hml, hown, hts⟩ (c_X5_worthForTurn l dC dI cyI cyJ tb ax a0 a1 ae aw at_ ao aq mk wn cnt lo lq wf k kk tn own oth mm d hsd hO hQ hk1 hkk htb hmk hmm (by omega) hDD.1) (cwV 1 hts gX5_worth_X5_worthForTurn rfl rfl rfl (by decide +kernel) ⟨(show 20 + 1 ≤ 30 by omega), (show 8 + (6 + 11) + 600 ≤ 700 by omega)⟩) (zPc_V (ci := 2) (q0 := 0) zB_X hP hK rfl rfl [0, 1, 2, 3, 4] rfl (zX_at hX.1 hS (fun _ h => h))) rfl rfl hl.1 rfl (lv_room (Nat.le_of_ble_eq_true rfl)) dX5_worth_8 ⟨Nat.le_of_ble_eq_true rfl, Nat.le_of_ble_eq_true rfl⟩) hP hDD hS [0, 1, 2, 3, 4] rfl (fun _ => rfl) (fun r_8 u_8 H locs hw_8 hP hS => ?_)
  have hP : va_P (dC, dI) vwCl [(ax, .inr (2, [.ref a0, .ref a1, .ref ae, .ref aw, .int (nI k), .int (nI tn), .int mk, .int wn, .int cnt])), (ao, .inr (1, [.long (lN own), .int lo])), (aq, .inr (1, [.long (lN oth), .int lq])), (ae, .inr (0, [.ref at_, .int (nI u_8.1)])), (at_, .inl (cyI, 13500, .inl u_8.2))] H := hP
  refine lv_istore_n (lv' := [(2, .int r_8), (0, .ref ax), (1, .int (nI d))]) hx hb dX5_worth_11 rfl hl (by decide) rfl (fun ls hl => ?_)
  refine lv_aload_n hx hb dX5_worth_12 rfl (lv_at hl 1 rfl) ?_
  refine va_get (D := (dC, dI)) (ci := 2) (v := .int (nI tn)) (C := RX5) (T := TX5) (N := 9) hx hb hts hinX5 hown hK hP 0 rfl rfl 5 (by decide) (hts (.fieldLink RX5 59 "RoyalUrTable" "turn" "I") (List.mem_of_getElem? (i := 1) rfl)) (fun _ h9 => h9) rfl dX5_worth_13 ?_
  refine lv_if_ne (tgt := 23) hx hb dX5_worth_16 (by decide) (fun c_16 => ?_) (fun c_16 => ?_)
  · skip
    have c_16 : ¬ tn = 0 := fun h9 => c_16 ((nI_eq (a := tn) (b := 0) (by omega) (by omega)).mpr h9)
    refine lv_ldc (v := 1000000000) hx hb hown (hts (.constant RX5 105 (1000000000)) (List.mem_of_getElem? (i := 2) rfl)) dX5_worth_23 ?_
    refine lv_iload_n hx hb dX5_worth_25 rfl (lv_at hl 0 rfl) ?_
    refine lv_isub hx hb dX5_worth_26 ?_
    refine vx_ret (mc := 1) (ms := 6) ?_
    refine W.widen (k := 1) (n := 6) (Nat.le_of_ble_eq_true rfl) (Nat.le_of_ble_eq_true rfl) ?_
    exact W.iret (v := 1000000000 - r_8) hx hb hr (fun t ht hW => ⟨⟨_, u_8, rfl, ⟨d, hd, rfl, hw_8.2.1, hw_8.2.2, (by rw [if_neg c_16, hw_8.1])⟩, zh ht hP⟩, hS.F ht⟩) hS.2.2 dX5_worth_27
  · skip
    have c_16 : tn = 0 := (nI_eq (a := tn) (b := 0) (by omega) (by omega)).mp c_16
    refine lv_iload_n hx hb dX5_worth_19 rfl (lv_at hl 0 rfl) ?_
    refine lv_goto (tgt := 27) hx hb dX5_worth_20 (by decide) ?_
    refine vx_ret (mc := 1) (ms := 6) ?_
    refine W.widen (k := 1) (n := 6) (Nat.le_of_ble_eq_true rfl) (Nat.le_of_ble_eq_true rfl) ?_
    exact W.iret (v := r_8) hx hb hr (fun t ht hW => ⟨⟨_, u_8, rfl, ⟨d, hd, rfl, hw_8.2.1, hw_8.2.2, (by rw [if_pos c_16, hw_8.1])⟩, zh ht hP⟩, hS.F ht⟩) hS.2.2 dX5_worth_27

set_option maxHeartbeats 4000000 in
set_option maxRecDepth 100000 in
theorem c_X5_ranked (l : Launch) (hl0 : l.stackTraces = false) (dC : Nat → ClassId) (dI : Nat → Nat → Nat) (cyI cyJ : ClassId) (tb ax a0 a1 ae aw at_ ao aq : Nat) (mk wn cnt lo lq : Int32) (wf wb : Nat → Int32) (k kk tn own oth mm : Nat) (hsd : zSd tn a0 a1 ao aq) (hO : zok k own) (hQ : zok k oth) (hk1 : 1 ≤ k) (hkk : kk ≤ 60) (htb : zTb kk wf) (hmk : zmk mk mm) (hmm : mm ≤ 4) (v w9 : Int32) (hnd : [ax, ao, aq, ae, at_, aw].Nodup) : vx_Met l yX5_ranked wsX5_ranked ({ frames := 30, cells := 2, slots := 12, locals := 700 }) (zPc [.ref ax, .int v, .int w9] (dC, dI) vwCl [(cyI, .int)] [(ax, .inr (2, [.ref a0, .ref a1, .ref ae, .ref aw, .int (nI k), .int (nI tn), .int mk, .int wn, .int cnt])), (ao, .inr (1, [.long (lN own), .int lo])), (aq, .inr (1, [.long (lN oth), .int lq])), (ae, .inr (0, [.ref at_, .int (nI kk)])), (at_, .inl (cyI, 13500, .inl wf)), (aw, .inl (cyI, 15, .inl wb))] (fun U => zG tb (zA [ax, ao, aq, ae, at_, aw]) U U.heap)) (va_Qi (fun (r : Int32) (u : Nat × (Nat → Int32) × (Nat → Int32)) => ∃ d, d ≤ 3 ∧ v = nI d ∧ 0 ≤ w9 ∧ zTb u.1 u.2.1 ∧ u.1 ≤ 60 ∧ r = (if w9 < nI (zNum own oth mm 15) then zRk (zWB k d own oth mm) w9 0 15 else -1)) (fun (u : Nat × (Nat → Int32) × (Nat → Int32)) t => va_P (dC, dI) vwCl ([(ax, .inr (2, [.ref a0, .ref a1, .ref ae, .ref aw, .int (nI k), .int (nI tn), .int mk, .int wn, .int cnt])), (ao, .inr (1, [.long (lN own), .int lo])), (aq, .inr (1, [.long (lN oth), .int lq])), (ae, .inr (0, [.ref at_, .int (nI u.1)])), (at_, .inl (cyI, 13500, .inl u.2.1)), (aw, .inl (cyI, 15, .inl u.2.2))]) t.heap) (zA [ax, ao, aq, ae, at_, aw])) (vx_X (fun (_ : Unit) => True) (fun (E : String) _ _ => E = zIA ∧ ¬ ((0 ≤ v ∧ v ≤ 3) ∧ 0 ≤ w9)) zF) 2 12 (zA [ax, ao, aq, ae, at_, aw]) := by
  refine vx_ofW (cc := cX5_ranked) (maxL := 5) (ret := (some .int)) (by decide) rfl ?_
  intro p e s m args below meth c s₁ B hml hnt hv
  obtain ⟨rfl, hP, hK, hX⟩ := hv
  have hx := B.exec
  have hb := B.bytes
  have hr := B.returns
  have hts := atoms_spec (ws := wsX5_ranked) B.pre
  have hown : s.vm.findClass RX5 = some m.cls := findClass_of_methodNamed B.named
  have hlocks := B.notSynchronized
  have hinX5 : ∀ w ∈ wsX50, w ∈ wsX5_ranked := by decide +kernel
  have hl := lv_entry ([.ref ax, .int v, .int w9]) (n := 5) (Nat.le_of_ble_eq_true rfl)
  rw [lg_entry_eq]
  generalize (lg_sl ([.ref ax, .int v, .int w9]) ++ List.replicate (5 - (lg_sl ([.ref ax, .int v, .int w9])).length) Slot.unset).toArray = ls at hl ⊢
  have hl : lv_has ls 5 [(0, .ref ax), (1, .int v), (2, .int w9)] := hl
  have hS : va_S zF s.heap s.heap [] := va_S.rf
  have hl9 := hl.1.trans hml.symm
  have hY : zY zF s s.heap := (hX.2).narrow zF_A
  have hDD : zD (zA [ax, ao, aq, ae, at_, aw]) [ax, ao, aq, ae, at_, aw] := ⟨hnd, fun _ h => h⟩
  have htn := zSd_le hsd
  refine lv_iload_n hx hb dX5_ranked_0 rfl (lv_at hl 1 rfl) ?_
  refine lv_iconst (v := 0) hx hb dX5_ranked_1 (by decide) ?_
  refine lv_iconst (v := 3) hx hb dX5_ranked_2 (by decide) ?_
  refine zth_v (m1 := 1) (s1 := 6) (vx_runS (As := [.int v, .int 0, .int 3]) (rest := []) ⟨hx, hb, hml, hown, hts⟩ (c_X5_refuseOutside l hl0 v 0 3) (va_cwS 3 hts gX5_ranked_X5_refuseOutside rfl rfl rfl (by decide +kernel) ⟨(show 6 + 1 ≤ 30 by omega), (show 8 + (3 + 11) + 90 ≤ 700 by omega)⟩) (zPx zB_Y (zY_at hY hS zF_A)) rfl rfl hl.1 rfl (lv_room (Nat.le_of_ble_eq_true rfl)) dX5_ranked_3 ⟨Nat.le_of_ble_eq_true rfl, Nat.le_of_ble_eq_true rfl⟩) hP hS (fun x hx9 => (hnt x hx9).elim) hlocks (fun hN t ht => ⟨(), trivial, ⟨rfl, fun h => hN h.1⟩, ht⟩) (Nat.le_of_ble_eq_true rfl) (Nat.le_of_ble_eq_true rfl) (fun H locs hG_3 hP hS => ?_)
  obtain ⟨d, hd, rfl⟩ := (zin_iff (n := 3) (by decide)).mp hG_3
  refine lv_iload_n hx hb dX5_ranked_6 rfl (lv_at hl 2 rfl) ?_
  refine lv_if_ge (tgt := 18) hx hb dX5_ranked_7 (by decide) (fun c_7 => ?_) (fun c_7 => ?_)
  · skip
    have hS : va_S (zA [ax, ao, aq, ae, at_, aw]) s.heap H locs := zS_w hS
    refine lv_iload_n hx hb dX5_ranked_18 rfl (lv_at hl 2 rfl) ?_
    refine lv_aload_n hx hb dX5_ranked_19 rfl (lv_at hl 0 rfl) ?_
    refine lv_aload_n hx hb dX5_ranked_20 rfl (lv_at hl 0 rfl) ?_
    refine va_get (D := (dC, dI)) (ci := 2) (v := .int mk) (C := RX5) (T := TX5) (N := 9) hx hb hts hinX5 hown hK hP 0 rfl rfl 6 (by decide) (hts (.fieldLink RX5 46 "RoyalUrTable" "marksTold" "I") (List.mem_of_getElem? (i := 3) rfl)) (fun _ h9 => h9) rfl dX5_ranked_21 ?_
    refine zro_i (va_runV (As := [.int mk]) (rest := [.int w9]) ⟨hx, hb, hml, hown, hts⟩ (c_X5_countMoves l dC dI cyI cyJ ax a0 a1 ae aw ao aq mk wn cnt lo lq k tn own oth hsd hO hQ mm mk hmk hmm) (cwV 1 hts gX5_ranked_X5_countMoves rfl rfl rfl (by decide +kernel) ⟨(show 2 + 1 ≤ 30 by omega), (show 8 + (8 + 11) + 48 ≤ 700 by omega)⟩) (zPc_V (ci := 2) (q0 := 0) zB_T hP hK rfl rfl [0, 1, 2] rfl (fun _ _ _ => trivial)) rfl rfl hl.1 rfl (lv_room (Nat.le_of_ble_eq_true rfl)) dX5_ranked_24 ⟨Nat.le_of_ble_eq_true rfl, Nat.le_of_ble_eq_true rfl⟩) hP hS (fun H locs hP hS => ?_)
    refine lv_icmp_lt (tgt := 32) hx hb dX5_ranked_27 (by decide) (fun c_27 => ?_) (fun c_27 => ?_)
    · skip
      refine lv_aload_n hx hb dX5_ranked_32 rfl (lv_at hl 0 rfl) ?_
      refine lv_iload_n hx hb dX5_ranked_33 rfl (lv_at hl 1 rfl) ?_
      refine zrw_v (w1 := fun u : Nat × (Nat → Int32) × (Nat → Int32) => [(ax, .inr (2, [.ref a0, .ref a1, .ref ae, .ref aw, .int (nI k), .int (nI tn), .int mk, .int wn, .int cnt])), (ao, .inr (1, [.long (lN own), .int lo])), (aq, .inr (1, [.long (lN oth), .int lq])), (ae, .inr (0, [.ref at_, .int (nI u.1)])), (at_, .inl (cyI, 13500, .inl u.2.1)), (aw, .inl (cyI, 15, .inl u.2.2))]) (al := [ax, ao, aq, ae, at_, aw]) (va_runV (As := [.int (nI d)]) (rest := []) ⟨hx, hb, hml, hown, hts⟩ (c_X5_noteWorthsBehind l dC dI cyI cyJ tb ax a0 a1 ae aw at_ ao aq mk wn cnt lo lq wf wb k kk tn own oth mm d hsd hO hQ hk1 hkk htb hmk hmm (by omega) hDD.1) (cwV 1 hts gX5_ranked_X5_noteWorthsBehind rfl rfl rfl (by decide +kernel) ⟨(show 20 + 1 ≤ 30 by omega), (show 8 + (8 + 11) + 600 ≤ 700 by omega)⟩) (zPc_V (ci := 2) (q0 := 0) zB_X hP hK rfl rfl [0, 1, 2, 3, 4, 5] rfl (zX_at hX.1 hS (fun _ h => h))) rfl rfl hl.1 rfl (lv_room (Nat.le_of_ble_eq_true rfl)) dX5_ranked_34 ⟨Nat.le_of_ble_eq_true rfl, Nat.le_of_ble_eq_true rfl⟩) hP hDD hS [0, 1, 2, 3, 4, 5] rfl (fun _ => rfl) (fun u_34 H locs hw_34 hP hS => ?_)
      have hP : va_P (dC, dI) vwCl [(ax, .inr (2, [.ref a0, .ref a1, .ref ae, .ref aw, .int (nI k), .int (nI tn), .int mk, .int wn, .int cnt])), (ao, .inr (1, [.long (lN own), .int lo])), (aq, .inr (1, [.long (lN oth), .int lq])), (ae, .inr (0, [.ref at_, .int (nI u_34.1)])), (at_, .inl (cyI, 13500, .inl u_34.2.1)), (aw, .inl (cyI, 15, .inl u_34.2.2))] H := hP
      refine lv_iconst (v := 0) hx hb dX5_ranked_37 (by decide) ?_
      refine lv_istore_n (lv' := [(3, .int 0), (0, .ref ax), (1, .int (nI d)), (2, .int w9)]) hx hb dX5_ranked_38 rfl hl (by decide) rfl (fun ls hl => ?_)
      generalize hQe : vx_MQ below _ _ _ _ _ _ _ = Q
      have lp : ∀ (n9 : Nat) (i : Nat) (j : Nat), i + j = 15 → zRk u_34.2.2 w9 0 15 = zRk u_34.2.2 w9 i j → 15 - i < n9 → ∀ (H : Heap) (locs : List Loc), va_P (dC, dI) vwCl [(ax, .inr (2, [.ref a0, .ref a1, .ref ae, .ref aw, .int (nI k), .int (nI tn), .int mk, .int wn, .int cnt])), (ao, .inr (1, [.long (lN own), .int lo])), (aq, .inr (1, [.long (lN oth), .int lq])), (ae, .inr (0, [.ref at_, .int (nI u_34.1)])), (at_, .inl (cyI, 13500, .inl u_34.2.1)), (aw, .inl (cyI, 15, .inl u_34.2.2))] H → va_S (zA [ax, ao, aq, ae, at_, aw]) s.heap H locs → ∀ ls : Array Slot, lv_has ls 5 [(3, .int (nI i)), (0, .ref ax), (1, .int (nI d)), (2, .int w9)] → W p l e (headSpec wsX5_ranked ({ frames := 30, cells := 2, slots := 12, locals := 700 })).room s m ([.ref ax, .int (nI d), .int w9] : List Value).toArray below meth c H locs (0 + 1) (0 + 6) Q (F0 m 39 ls []) := by
        intro n9
        induction n9 with
        | zero => intro i j hi2 hf hm9; exact absurd hm9 (Nat.not_lt_zero _)
        | succ n9 ih39 =>
          intro i j hi2 hf hm9 H locs hP hS ls hl
          refine lv_iload_n hx hb dX5_ranked_39 rfl (lv_at hl 0 rfl) ?_
          refine lv_aload_n hx hb dX5_ranked_40 rfl (lv_at hl 1 rfl) ?_
          refine va_get (D := (dC, dI)) (ci := 2) (v := .ref aw) (C := RX5) (T := TX5) (N := 9) hx hb hts hinX5 hown hK hP 0 rfl rfl 3 (by decide) (hts (.fieldLink RX5 28 "RoyalUrTable" "worthsBehind" "[I") (List.mem_of_getElem? (i := 4) rfl)) (fun _ h9 => h9) rfl dX5_ranked_41 ?_
          refine va_alen (v := 15) hx hb hK hP 5 0 rfl rfl rfl dX5_ranked_44 ?_
          refine lv_icmp_ge (tgt := 81) hx hb dX5_ranked_45 (by decide) (fun c_45 => ?_) (fun c_45 => ?_)
          · skip
            have c_45 : 15 ≤ i := (nI_leI (a := 15) (b := i) (by omega) (by omega)).mp c_45
            refine lv_iconst (v := -1) hx hb dX5_ranked_81 (by decide) ?_
            subst hQe
            refine vx_ret (mc := 2) (ms := 12) ?_
            refine W.widen (k := 2) (n := 12) (Nat.le_of_ble_eq_true rfl) (Nat.le_of_ble_eq_true rfl) ?_
            exact W.iret (v := -1) hx hb hr (fun t ht hW => ⟨⟨_, u_34, rfl, ⟨d, hd, rfl, c_7, hw_34.1, hw_34.2.1, (by rw [if_pos c_27, ← zRk_congr hw_34.2.2 w9 15 0 (by omega), hf]; rw [show j = 0 by omega]; rfl)⟩, zh ht hP⟩, hS.F ht⟩) hS.2.2 dX5_ranked_82
          · skip
            have c_45 : ¬ 15 ≤ i := fun h9 => c_45 ((nI_leI (a := 15) (b := i) (by omega) (by omega)).mpr h9)
            refine lv_aload_n hx hb dX5_ranked_48 rfl (lv_at hl 1 rfl) ?_
            refine va_get (D := (dC, dI)) (ci := 2) (v := .ref aw) (C := RX5) (T := TX5) (N := 9) hx hb hts hinX5 hown hK hP 0 rfl rfl 3 (by decide) (hts (.fieldLink RX5 28 "RoyalUrTable" "worthsBehind" "[I") (List.mem_of_getElem? (i := 4) rfl)) (fun _ h9 => h9) rfl dX5_ranked_49 ?_
            refine lv_iload_n hx hb dX5_ranked_52 rfl (lv_at hl 0 rfl) ?_
            refine zi_iald hx hb hK hP 5 0 rfl rfl (j := i) rfl (by omega) (by decide) dX5_ranked_53 ?_
            refine lv_istore (lv' := [(4, .int (u_34.2.2 i)), (3, .int (nI i)), (0, .ref ax), (1, .int (nI d)), (2, .int w9)]) hx hb dX5_ranked_54 hl (by decide) rfl (fun ls hl => ?_)
            refine lv_iload hx hb dX5_ranked_56 (lv_at hl 0 rfl) ?_
            refine lv_iconst (v := -1) hx hb dX5_ranked_58 (by decide) ?_
            refine lv_icmp_eq (tgt := 75) hx hb dX5_ranked_59 (by decide) (fun c_59 => ?_) (fun c_59 => ?_)
            · skip
              refine lv_iinc (v := nI (i + 1)) (lv' := [(3, .int (nI (i + 1))), (4, .int (u_34.2.2 i)), (0, .ref ax), (1, .int (nI d)), (2, .int w9)]) hx hb dX5_ranked_75 hl (k := 1) rfl (nI_1 i) (by decide) rfl (fun ls hl => ?_)
              refine lv_goto (tgt := 39) hx hb dX5_ranked_78 (by decide) ?_
              exact ih39 (i + 1) (j - 1) (by omega) (by rw [hf]; obtain ⟨j9, rfl⟩ : ∃ j9, j = j9 + 1 := ⟨j - 1, by omega⟩; rw [zRk_s, if_neg (fun h => h.1 c_59)]; rfl) (by omega) _ _ hP hS _ (lv_sub hl [0, 2, 3, 4] rfl)
            · skip
              refine lv_aload_n hx hb dX5_ranked_62 rfl (lv_at hl 2 rfl) ?_
              refine lv_iload_n hx hb dX5_ranked_63 rfl (lv_at hl 1 rfl) ?_
              refine lv_iload hx hb dX5_ranked_64 (lv_at hl 0 rfl) ?_
              refine zro_i (va_runV (As := [.int (nI i), .int (u_34.2.2 i)]) (rest := []) ⟨hx, hb, hml, hown, hts⟩ (c_X5_countBetter l dC dI cyI cyJ ax a0 a1 ae aw (nI k) (nI tn) mk wn cnt u_34.2.2 i (by omega) (u_34.2.2 i)) (cwV 2 hts gX5_ranked_X5_countBetter rfl rfl rfl (by decide +kernel) ⟨(show 0 + 1 ≤ 30 by omega), (show 8 + (5 + 11) + 0 ≤ 700 by omega)⟩) (zPc_V (ci := 2) (q0 := 0) zB_T hP hK rfl rfl [0, 5] rfl (fun _ _ _ => trivial)) rfl rfl hl.1 rfl (lv_room (Nat.le_of_ble_eq_true rfl)) dX5_ranked_66 ⟨Nat.le_of_ble_eq_true rfl, Nat.le_of_ble_eq_true rfl⟩) hP hS (fun H locs hP hS => ?_)
              refine lv_iload_n hx hb dX5_ranked_69 rfl (lv_at hl 4 rfl) ?_
              refine lv_icmp_ne (tgt := 75) hx hb dX5_ranked_70 (by decide) (fun c_70 => ?_) (fun c_70 => ?_)
              · skip
                refine lv_iinc (v := nI (i + 1)) (lv' := [(3, .int (nI (i + 1))), (4, .int (u_34.2.2 i)), (0, .ref ax), (1, .int (nI d)), (2, .int w9)]) hx hb dX5_ranked_75 hl (k := 1) rfl (nI_1 i) (by decide) rfl (fun ls hl => ?_)
                refine lv_goto (tgt := 39) hx hb dX5_ranked_78 (by decide) ?_
                exact ih39 (i + 1) (j - 1) (by omega) (by rw [hf]; obtain ⟨j9, rfl⟩ : ∃ j9, j = j9 + 1 := ⟨j - 1, by omega⟩; rw [zRk_s, if_neg (fun h => c_70 h.2)]; rfl) (by omega) _ _ hP hS _ (lv_sub hl [0, 2, 3, 4] rfl)
              · skip
                refine lv_iload_n hx hb dX5_ranked_73 rfl (lv_at hl 1 rfl) ?_
                subst hQe
                refine vx_ret (mc := 2) (ms := 12) ?_
                refine W.widen (k := 2) (n := 12) (Nat.le_of_ble_eq_true rfl) (Nat.le_of_ble_eq_true rfl) ?_
                exact W.iret (v := nI i) hx hb hr (fun t ht hW => ⟨⟨_, u_34, rfl, ⟨d, hd, rfl, c_7, hw_34.1, hw_34.2.1, (by rw [if_pos c_27, ← zRk_congr hw_34.2.2 w9 15 0 (by omega), hf]; obtain ⟨j9, rfl⟩ : ∃ j9, j = j9 + 1 := ⟨j - 1, by omega⟩; rw [zRk_s, if_pos ⟨c_59, c_70⟩])⟩, zh ht hP⟩, hS.F ht⟩) hS.2.2 dX5_ranked_74
      exact lp 16 0 15 (by omega) rfl (by omega) _ _ hP hS _ (lv_sub hl [0, 1, 2, 3] rfl)
    · skip
      refine lv_iconst (v := -1) hx hb dX5_ranked_30 (by decide) ?_
      refine vx_ret (mc := 2) (ms := 12) ?_
      refine W.widen (k := 2) (n := 12) (Nat.le_of_ble_eq_true rfl) (Nat.le_of_ble_eq_true rfl) ?_
      exact W.iret (v := -1) hx hb hr (fun t ht hW => ⟨⟨_, (kk, wf, wb), rfl, ⟨d, hd, rfl, c_7, htb, hkk, (by rw [if_neg c_27])⟩, zh ht hP⟩, hS.F ht⟩) hS.2.2 dX5_ranked_31
  · skip
    exact vx_throw0 (cls := "java/lang/IllegalArgumentException") (names := ["java/lang/RuntimeException", "java/lang/Exception"]) (ik := 108) (ic := 110) (A := zF) hx hb hl0 hown (by decide +kernel) (by decide +kernel) (hts (.classLink RX5 108 "java/lang/IllegalArgumentException") (List.mem_of_getElem? (i := 1) rfl)) (hts (.initialized "java/lang/IllegalArgumentException") (List.mem_of_getElem? (i := 2) rfl)) (vx_hat (fun w h => hts w (List.mem_cons_of_mem _ (List.mem_append_right _ h))) (by decide +kernel) (vx_c (va_Nw.use rfl hY.2.2.1) (vx_c (va_Nw.use rfl hY.2.2.2.1) (vx_c (va_Nw.use rfl hY.2.2.2.2.1) (vx_c (va_Nw.use rfl hY.2.2.2.2.2.1) vx_n))))) (by decide +kernel) hY.1 hY.2.1 hS hl9 dX5_ranked_10 dX5_ranked_13 dX5_ranked_14 dX5_ranked_17 (fun x hx9 => (hnt x hx9).elim) (Nat.le_of_ble_eq_true rfl) (Nat.le_of_ble_eq_true rfl) (Nat.le_of_ble_eq_true rfl) (Nat.le_of_ble_eq_true rfl) hlocks (fun t hv hz hk => ⟨(), trivial, ⟨rfl, fun h => c_7 h.2⟩, zthx hS hz hk⟩) (fun z hz => (hS.2.2 z hz).elim) (Nat.le_of_ble_eq_true rfl) (Nat.le_of_ble_eq_true rfl)

set_option maxHeartbeats 4000000 in
set_option maxRecDepth 100000 in
theorem c_X5_ending (l : Launch) (hl0 : l.stackTraces = false) (dC : Nat → ClassId) (dI : Nat → Nat → Nat) (cyI cyJ : ClassId) (tb ax a0 a1 ae aw at_ : Nat) (pI tI mk wn cnt : Int32) (wf : Nat → Int32) (kk : Nat) (hkk : kk ≤ 60) (htb : zTb kk wf) (v1 v2 v3 : Int32) (hnd : [ax, ae, at_].Nodup) : vx_Met l yX5_ending wsX5_ending ({ frames := 8, cells := 4, slots := 24, locals := 152 }) (zPc [.ref ax, .int v1, .int v2, .int v3] (dC, dI) vwCl [(cyI, .int)] [(ax, .inr (2, [.ref a0, .ref a1, .ref ae, .ref aw, .int pI, .int tI, .int mk, .int wn, .int cnt])), (ae, .inr (0, [.ref at_, .int (nI kk)])), (at_, .inl (cyI, 13500, .inl wf))] (fun U => zG tb (zA [ax, ae, at_]) U U.heap)) (va_Qi (fun (r : Int32) (u : Nat × (Nat → Int32)) => ∃ a b rr : Nat, a ≤ 14 ∧ b ≤ 14 ∧ rr ≤ 60 ∧ v1 = nI a ∧ v2 = nI b ∧ v3 = nI rr ∧ ¬ (a = b ∧ zshr a = true) ∧ zTb u.1 u.2 ∧ u.1 ≤ 60 ∧ r = nI (zE rr a b)) (fun (u : Nat × (Nat → Int32)) t => va_P (dC, dI) vwCl ([(ax, .inr (2, [.ref a0, .ref a1, .ref ae, .ref aw, .int pI, .int tI, .int mk, .int wn, .int cnt])), (ae, .inr (0, [.ref at_, .int (nI u.1)])), (at_, .inl (cyI, 13500, .inl u.2))]) t.heap) (zA [ax, ae, at_])) (vx_X (fun (_ : Unit) => True) (fun (E : String) _ _ => E = zIA ∧ ¬ (zEnd v1 v2 ∧ (0 ≤ v3 ∧ v3 ≤ 60))) zF) 4 24 (zA [ax, ae, at_]) := by
  refine vx_ofW (cc := cX5_ending) (maxL := 4) (ret := (some .int)) (by decide) rfl ?_
  intro p e s m args below meth c s₁ B hml hnt hv
  obtain ⟨rfl, hP, hK, hX⟩ := hv
  have hx := B.exec
  have hb := B.bytes
  have hr := B.returns
  have hts := atoms_spec (ws := wsX5_ending) B.pre
  have hown : s.vm.findClass RX5 = some m.cls := findClass_of_methodNamed B.named
  have hlocks := B.notSynchronized
  have hinX5 : ∀ w ∈ wsX50, w ∈ wsX5_ending := by decide +kernel
  have hl := lv_entry ([.ref ax, .int v1, .int v2, .int v3]) (n := 4) (Nat.le_of_ble_eq_true rfl)
  rw [lg_entry_eq]
  generalize (lg_sl ([.ref ax, .int v1, .int v2, .int v3]) ++ List.replicate (4 - (lg_sl ([.ref ax, .int v1, .int v2, .int v3])).length) Slot.unset).toArray = ls at hl ⊢
  have hl : lv_has ls 4 [(0, .ref ax), (1, .int v1), (2, .int v2), (3, .int v3)] := hl
  have hS : va_S zF s.heap s.heap [] := va_S.rf
  have hl9 := hl.1.trans hml.symm
  have hY : zY zF s s.heap := (hX.2).narrow zF_A
  have hDD : zD (zA [ax, ae, at_]) [ax, ae, at_] := ⟨hnd, fun _ h => h⟩
  refine lv_iload_n hx hb dX5_ending_0 rfl (lv_at hl 1 rfl) ?_
  refine lv_iload_n hx hb dX5_ending_1 rfl (lv_at hl 2 rfl) ?_
  refine zth_v (m1 := 3) (s1 := 18) (vx_runS (As := [.int v1, .int v2]) (rest := []) ⟨hx, hb, hml, hown, hts⟩ (c_X5_refuseEnding l hl0 v1 v2) (va_cwS 2 hts gX5_ending_X5_refuseEnding rfl rfl rfl (by decide +kernel) ⟨Nat.le_of_ble_eq_true rfl, Nat.le_of_ble_eq_true rfl⟩) (zPx zB_Y (zY_at hY hS zF_A)) rfl rfl hl.1 rfl (lv_room (Nat.le_of_ble_eq_true rfl)) dX5_ending_2 ⟨Nat.le_of_ble_eq_true rfl, Nat.le_of_ble_eq_true rfl⟩) hP hS (fun x hx9 => (hnt x hx9).elim) hlocks (fun hN t ht => ⟨(), trivial, ⟨rfl, fun h => hN h.1⟩, ht⟩) (Nat.le_of_ble_eq_true rfl) (Nat.le_of_ble_eq_true rfl) (fun H locs hG_2 hP hS => ?_)
  obtain ⟨a, b9, ha, hb9, rfl, rfl, hne⟩ := hG_2
  refine lv_iload_n hx hb dX5_ending_5 rfl (lv_at hl 3 rfl) ?_
  refine lv_iconst (v := 0) hx hb dX5_ending_6 (by decide) ?_
  refine lv_bipush (v := 60) hx hb dX5_ending_7 (by decide) ?_
  refine zth_v (m1 := 1) (s1 := 6) (vx_runS (As := [.int v3, .int 0, .int 60]) (rest := []) ⟨hx, hb, hml, hown, hts⟩ (c_X5_refuseOutside l hl0 v3 0 60) (va_cwS 3 hts gX5_ending_X5_refuseOutside rfl rfl rfl (by decide +kernel) ⟨Nat.le_of_ble_eq_true rfl, Nat.le_of_ble_eq_true rfl⟩) (zPx zB_Y (zY_at hY hS zF_A)) rfl rfl hl.1 rfl (lv_room (Nat.le_of_ble_eq_true rfl)) dX5_ending_9 ⟨Nat.le_of_ble_eq_true rfl, Nat.le_of_ble_eq_true rfl⟩) hP hS (fun x hx9 => (hnt x hx9).elim) hlocks (fun hN t ht => ⟨(), trivial, ⟨rfl, fun h => hN h.2⟩, ht⟩) (Nat.le_of_ble_eq_true rfl) (Nat.le_of_ble_eq_true rfl) (fun H locs hG_9 hP hS => ?_)
  obtain ⟨rr, hrr, rfl⟩ := (zin_iff (n := 60) (by decide)).mp hG_9
  have hS : va_S (zA [ax, ae, at_]) s.heap H locs := zS_w hS
  refine lv_aload_n hx hb dX5_ending_12 rfl (lv_at hl 0 rfl) ?_
  refine va_get (D := (dC, dI)) (ci := 2) (v := .ref ae) (C := RX5) (T := TX5) (N := 9) hx hb hts hinX5 hown hK hP 0 rfl rfl 2 (by decide) (hts (.fieldLink RX5 22 "RoyalUrTable" "endings" "LRoyalUrTable$Endings;") (List.mem_of_getElem? (i := 1) rfl)) (fun _ h9 => h9) rfl dX5_ending_13 ?_
  refine lv_iload_n hx hb dX5_ending_16 rfl (lv_at hl 3 rfl) ?_
  refine zrw_v (w1 := fun u : Nat × (Nat → Int32) => [(ae, .inr (0, [.ref at_, .int (nI u.1)])), (at_, .inl (cyI, 13500, .inl u.2))]) (al := [ae, at_]) (va_runV (As := [.int (nI rr)]) (rest := []) ⟨hx, hb, hml, hown, hts⟩ (c_X1_fillUpTo l dC dI cyI cyJ tb ae at_ wf kk rr hkk (by omega) htb (z_nd hDD.1 [1, 2] (by decide) rfl)) (cwV 1 hts gX5_ending_X1_fillUpTo rfl rfl rfl (by decide +kernel) ⟨Nat.le_of_ble_eq_true rfl, Nat.le_of_ble_eq_true rfl⟩) (zPc_V (ci := 0) (q0 := 1) zB_X hP hK rfl rfl [1, 2] rfl (zX_at hX.1 hS (zA_pl (al := [ax, ae, at_]) (bl := [ae, at_]) [1, 2] rfl))) rfl rfl hl.1 rfl (lv_room (Nat.le_of_ble_eq_true rfl)) dX5_ending_17 ⟨Nat.le_of_ble_eq_true rfl, Nat.le_of_ble_eq_true rfl⟩) hP hDD hS [1, 2] rfl (fun _ => rfl) (fun u_17 H locs hw_17 hP hS => ?_)
  have hP : va_P (dC, dI) vwCl [(ax, .inr (2, [.ref a0, .ref a1, .ref ae, .ref aw, .int pI, .int tI, .int mk, .int wn, .int cnt])), (ae, .inr (0, [.ref at_, .int (nI u_17.1)])), (at_, .inl (cyI, 13500, .inl u_17.2))] H := hP
  refine lv_aload_n hx hb dX5_ending_20 rfl (lv_at hl 0 rfl) ?_
  refine va_get (D := (dC, dI)) (ci := 2) (v := .ref ae) (C := RX5) (T := TX5) (N := 9) hx hb hts hinX5 hown hK hP 0 rfl rfl 2 (by decide) (hts (.fieldLink RX5 22 "RoyalUrTable" "endings" "LRoyalUrTable$Endings;") (List.mem_of_getElem? (i := 1) rfl)) (fun _ h9 => h9) rfl dX5_ending_21 ?_
  refine lv_iload_n hx hb dX5_ending_24 rfl (lv_at hl 1 rfl) ?_
  refine lv_iload_n hx hb dX5_ending_25 rfl (lv_at hl 2 rfl) ?_
  refine lv_iload_n hx hb dX5_ending_26 rfl (lv_at hl 3 rfl) ?_
  refine zro_i (va_runV (As := [.int (nI a), .int (nI b9), .int (nI rr)]) (rest := []) ⟨hx, hb, hml, hown, hts⟩ (c_X1_held l dC dI cyI cyJ ae at_ (nI u_17.1) u_17.2 u_17.1 hw_17.2.2 hw_17.1 a b9 rr (by omega) (by omega) hw_17.2.1) (cwV 3 hts gX5_ending_X1_held rfl rfl rfl (by decide +kernel) ⟨Nat.le_of_ble_eq_true rfl, Nat.le_of_ble_eq_true rfl⟩) (zPc_V (ci := 0) (q0 := 1) zB_T hP hK rfl rfl [1, 2] rfl (fun _ _ _ => trivial)) rfl rfl hl.1 rfl (lv_room (Nat.le_of_ble_eq_true rfl)) dX5_ending_27 ⟨Nat.le_of_ble_eq_true rfl, Nat.le_of_ble_eq_true rfl⟩) hP hS (fun H locs hP hS => ?_)
  refine vx_ret (mc := 4) (ms := 24) ?_
  refine W.widen (k := 4) (n := 24) (Nat.le_of_ble_eq_true rfl) (Nat.le_of_ble_eq_true rfl) ?_
  exact W.iret (v := nI (zE rr a b9)) hx hb hr (fun t ht hW => ⟨⟨_, u_17, rfl, ⟨a, b9, rr, ha, hb9, hrr, rfl, rfl, rfl, hne, hw_17.1, hw_17.2.2, rfl⟩, zh ht hP⟩, hS.F ht⟩) hS.2.2 dX5_ending_30

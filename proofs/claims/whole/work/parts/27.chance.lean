/-! the two chances: a worth over a thousand millions, never a NaN -/
theorem zch (x : Int32) : vf_n64 (FP.ddiv (FP.i2d x) 4741671816366391296) :=
  Jvm.Free.Fl.noNaN64_no.mpr (FP.Core.ddiv_out ((FP.Core.notNaN_iff _).mpr (FP.Core.i2d_fin x).ne_nan) ((FP.Core.fin_bits _).mpr (by decide)) (fun h => absurd ((FP.Core.zero_bits2 _).mp h) (by decide)))
def zCh (x : Int32) : UInt64 := FP.ddiv (FP.i2d x) 4741671816366391296
set_option maxHeartbeats 4000000 in
set_option maxRecDepth 100000 in
theorem c_X5_chance (l : Launch) (hl0 : l.stackTraces = false) (dC : Nat → ClassId) (dI : Nat → Nat → Nat) (cyI cyJ : ClassId) (tb ax a0 a1 ae aw at_ ao aq : Nat) (mk wn cnt lo lq : Int32) (wf : Nat → Int32) (k kk tn own oth mm : Nat) (hsd : zSd tn a0 a1 ao aq) (hO : zok k own) (hQ : zok k oth) (hk1 : 1 ≤ k) (hkk : kk ≤ 60) (htb : zTb kk wf) (hmk : zmk mk mm) (hmm : mm ≤ 4) (v : Int32) (hnd : [ax, ao, aq, ae, at_].Nodup) : vx_Met l yX5_chance wsX5_chance ({ frames := 30, cells := 1, slots := 6, locals := 700 }) (zPc [.ref ax, .int v] (dC, dI) vwCl [(cyI, .int), (cyJ, .long)] [(ax, .inr (2, [.ref a0, .ref a1, .ref ae, .ref aw, .int (nI k), .int (nI tn), .int mk, .int wn, .int cnt])), (ao, .inr (1, [.long (lN own), .int lo])), (aq, .inr (1, [.long (lN oth), .int lq])), (ae, .inr (0, [.ref at_, .int (nI kk)])), (at_, .inl (cyI, 13500, .inl wf))] (fun U => zG tb (zA [ax, ao, aq, ae, at_]) U U.heap)) (va_Qd (fun (r : UInt64) (u : Nat × (Nat → Int32)) => ∃ d, d ≤ 3 ∧ v = nI d ∧ zTb u.1 u.2 ∧ u.1 ≤ 60 ∧ r = zCh (zWT k tn wn mk mm d own oth)) (fun (u : Nat × (Nat → Int32)) t => va_P (dC, dI) vwCl ([(ax, .inr (2, [.ref a0, .ref a1, .ref ae, .ref aw, .int (nI k), .int (nI tn), .int mk, .int wn, .int cnt])), (ao, .inr (1, [.long (lN own), .int lo])), (aq, .inr (1, [.long (lN oth), .int lq])), (ae, .inr (0, [.ref at_, .int (nI u.1)])), (at_, .inl (cyI, 13500, .inl u.2))]) t.heap) (zA [ax, ao, aq, ae, at_])) (vx_X (fun (_ : Unit) => True) (fun (E : String) _ _ => E = zIA ∧ ¬ (0 ≤ v ∧ v ≤ 3)) zF) 1 6 (zA [ax, ao, aq, ae, at_]) := by
  refine vx_ofW (cc := cX5_chance) (maxL := 2) (ret := (some .double)) (by decide) rfl ?_
  intro p e s m args below meth c s₁ B hml hnt hv
  obtain ⟨rfl, hP, hK, hX⟩ := hv
  have hx := B.exec
  have hb := B.bytes
  have hr := B.returns
  have hts := atoms_spec (ws := wsX5_chance) B.pre
  have hown : s.vm.findClass RX5 = some m.cls := findClass_of_methodNamed B.named
  have hlocks := B.notSynchronized
  have hl := lv_entry ([.ref ax, .int v]) (n := 2) (Nat.le_of_ble_eq_true rfl)
  rw [lg_entry_eq]
  generalize (lg_sl ([.ref ax, .int v]) ++ List.replicate (2 - (lg_sl ([.ref ax, .int v])).length) Slot.unset).toArray = ls at hl ⊢
  have hl : lv_has ls 2 [(0, .ref ax), (1, .int v)] := hl
  have hS : va_S zF s.heap s.heap [] := va_S.rf
  have hl9 := hl.1.trans hml.symm
  have hY : zY zF s s.heap := (hX.2).narrow zF_A
  have hDD : zD (zA [ax, ao, aq, ae, at_]) [ax, ao, aq, ae, at_] := ⟨hnd, fun _ h => h⟩
  have htn := zSd_le hsd
  refine lv_iload_n hx hb dX5_chance_0 rfl (lv_at hl 1 rfl) ?_
  refine lv_iconst (v := 0) hx hb dX5_chance_1 (by decide) ?_
  refine lv_iconst (v := 3) hx hb dX5_chance_2 (by decide) ?_
  refine zth_v (m1 := 1) (s1 := 6) (vx_runS (As := [.int v, .int 0, .int 3]) (rest := []) ⟨hx, hb, hml, hown, hts⟩ (c_X5_refuseOutside l hl0 v 0 3) (va_cwS 3 hts gX5_chance_X5_refuseOutside rfl rfl rfl (by decide +kernel) ⟨(show 6 + 1 ≤ 30 by omega), (show 8 + (3 + 11) + 90 ≤ 700 by omega)⟩) (zPx zB_Y (zY_at hY hS zF_A)) rfl rfl hl.1 rfl (lv_room (Nat.le_of_ble_eq_true rfl)) dX5_chance_3 ⟨Nat.le_of_ble_eq_true rfl, Nat.le_of_ble_eq_true rfl⟩) hP hS (fun x hx9 => (hnt x hx9).elim) hlocks (fun hN t ht => ⟨(), trivial, ⟨rfl, hN⟩, ht⟩) (Nat.le_of_ble_eq_true rfl) (Nat.le_of_ble_eq_true rfl) (fun H locs hG_3 hP hS => ?_)
  obtain ⟨d, hd, rfl⟩ := (zin_iff (n := 3) (by decide)).mp hG_3
  have hS : va_S (zA [ax, ao, aq, ae, at_]) s.heap H locs := zS_w hS
  refine lv_aload_n hx hb dX5_chance_6 rfl (lv_at hl 0 rfl) ?_
  refine lv_iload_n hx hb dX5_chance_7 rfl (lv_at hl 1 rfl) ?_
  refine zrw_i (w1 := fun u : Nat × (Nat → Int32) => [(ax, .inr (2, [.ref a0, .ref a1, .ref ae, .ref aw, .int (nI k), .int (nI tn), .int mk, .int wn, .int cnt])), (ao, .inr (1, [.long (lN own), .int lo])), (aq, .inr (1, [.long (lN oth), .int lq])), (ae, .inr (0, [.ref at_, .int (nI u.1)])), (at_, .inl (cyI, 13500, .inl u.2))]) (al := [ax, ao, aq, ae, at_]) (va_runV (As := [.int (nI d)]) (rest := []) ⟨hx, hb, hml, hown, hts⟩ (c_X5_worthForTurn l dC dI cyI cyJ tb ax a0 a1 ae aw at_ ao aq mk wn cnt lo lq wf k kk tn own oth mm d hsd hO hQ hk1 hkk htb hmk hmm (by omega) hDD.1) (cwV 1 hts gX5_chance_X5_worthForTurn rfl rfl rfl (by decide +kernel) ⟨(show 20 + 1 ≤ 30 by omega), (show 8 + (6 + 11) + 600 ≤ 700 by omega)⟩) (zPc_V (ci := 2) (q0 := 0) zB_X hP hK rfl rfl [0, 1, 2, 3, 4] rfl (zX_at hX.1 hS (fun _ h => h))) rfl rfl hl.1 rfl (lv_room (Nat.le_of_ble_eq_true rfl)) dX5_chance_8 ⟨Nat.le_of_ble_eq_true rfl, Nat.le_of_ble_eq_true rfl⟩) hP hDD hS [0, 1, 2, 3, 4] rfl (fun _ => rfl) (fun r_8 u_8 H locs hw_8 hP hS => ?_)
  have hP : va_P (dC, dI) vwCl [(ax, .inr (2, [.ref a0, .ref a1, .ref ae, .ref aw, .int (nI k), .int (nI tn), .int mk, .int wn, .int cnt])), (ao, .inr (1, [.long (lN own), .int lo])), (aq, .inr (1, [.long (lN oth), .int lq])), (ae, .inr (0, [.ref at_, .int (nI u_8.1)])), (at_, .inl (cyI, 13500, .inl u_8.2))] H := hP
  refine lv_i2d hx hb dX5_chance_11 ?_
  refine lv_ldc2d (v := 4741671816366391296) hx hb hown (hts (.constantDouble RX5 106 (4741671816366391296)) (List.mem_of_getElem? (i := 1) rfl)) dX5_chance_12 ?_
  refine lv_ddiv hx hb dX5_chance_15 (zch r_8) ?_
  refine vx_ret (mc := 1) (ms := 6) ?_
  refine W.widen (k := 1) (n := 6) (Nat.le_of_ble_eq_true rfl) (Nat.le_of_ble_eq_true rfl) ?_
  exact W.dret (v := zCh r_8) hx hb hr (fun t ht hW => ⟨⟨_, u_8, rfl, ⟨d, hd, rfl, hw_8.2.1, hw_8.2.2, (by rw [hw_8.1])⟩, zh ht hP⟩, hS.F ht⟩) hS.2.2 dX5_chance_16

set_option maxHeartbeats 4000000 in
set_option maxRecDepth 100000 in
theorem c_X6_chance (l : Launch) (dC : Nat → ClassId) (dI : Nat → Nat → Nat) (cyI cyJ : ClassId) (k : Nat) (hk1 : 1 ≤ k) (bx bl ba bt bg be bf bw bs bm bn bb bu bh : Nat) (thr tI wI cI : Int32) (tf ff Af hf : Nat → Int32) (htf : ∀ j, j < 5 → tf j = nI (ztm j)) (hff : zFt 40 ff) (u0 : zU) (sd own oth mm : Nat) (hsd : sd ≤ 1) (hO : zok k own) (hQ : zok k oth) (hrow : zRow Af 0 sd own oth) (hmk : zmk tI mm) (hmm : mm ≤ 4) (hhas : ¬ tI = -1 → zHas own oth mm 15 = true) (v : Int32) (hnd : [bx, ba, bh, bt, bf, bw, bs, bm, bn, bb, bu].Nodup) : Met l yX6_chance wsX6_chance ({ frames := 7, cells := 0, slots := 0, locals := 167 }) (zPc [.ref bx, .int v] (dC, dI) vwCl [(cyI, .int), (cyJ, .long)] [(bx, .inr (3, [.int thr, .int (nI k), .int (nI sd), .int tI, .int wI, .int cI, .ref bl, .ref ba, .ref bt, .ref bg, .ref be, .ref bf, .ref bw, .ref bs, .ref bm, .ref bn, .ref bb, .ref bu, .ref bh])), (ba, .inl (cyI, 32, .inl Af)), (bh, .inl (cyI, 15, .inl hf)), (bt, .inl (cyI, 5, .inl tf)), (bf, .inl (cyI, 225, .inl ff)), (bw, .inl (cyI, 160, .inl u0.1)), (bs, .inl (cyI, 5, .inl u0.2.1)), (bm, .inl (cyI, 5, .inl u0.2.2.1)), (bn, .inl (cyI, 5, .inl u0.2.2.2.1)), (bb, .inl (cyI, 5, .inl u0.2.2.2.2.1)), (bu, .inl (cyJ, 5, .inr (.inl u0.2.2.2.2.2)))] (fun _ => True)) (va_Qd (fun (r : UInt64) (u : Int32 × (Nat → Int32) × zU) => (u.1 = 0 ∧ ∃ d, d ≤ 3 ∧ v = nI d ∧ r = zCh (zWT k sd wI tI mm d own oth)) ∨ (u.1 = 1 ∧ ¬ (0 ≤ v ∧ v ≤ 3))) (fun (u : Int32 × (Nat → Int32) × zU) t => va_P (dC, dI) vwCl ([(bx, .inr (3, [.int u.1, .int (nI k), .int (nI sd), .int tI, .int wI, .int cI, .ref bl, .ref ba, .ref bt, .ref bg, .ref be, .ref bf, .ref bw, .ref bs, .ref bm, .ref bn, .ref bb, .ref bu, .ref bh])), (ba, .inl (cyI, 32, .inl Af)), (bh, .inl (cyI, 15, .inl u.2.1)), (bt, .inl (cyI, 5, .inl tf)), (bf, .inl (cyI, 225, .inl ff)), (bw, .inl (cyI, 160, .inl u.2.2.1)), (bs, .inl (cyI, 5, .inl u.2.2.2.1)), (bm, .inl (cyI, 5, .inl u.2.2.2.2.1)), (bn, .inl (cyI, 5, .inl u.2.2.2.2.2.1)), (bb, .inl (cyI, 5, .inl u.2.2.2.2.2.2.1)), (bu, .inl (cyJ, 5, .inr (.inl u.2.2.2.2.2.2.2)))]) t.heap) (zA [bx, ba, bh, bt, bf, bw, bs, bm, bn, bb, bu])) 0 0 (zA [bx, ba, bh, bt, bf, bw, bs, bm, bn, bb, bu]) := by
  refine Met.ofW (cc := cX6_chance) (maxL := 2) (ret := (some .double)) (by decide) rfl ?_
  intro p e s m args below meth c s₁ B hml hv
  obtain ⟨rfl, hP, hK, hX⟩ := hv
  have hx := B.exec
  have hb := B.bytes
  have hr := B.returns
  have hts := atoms_spec (ws := wsX6_chance) B.pre
  have hown : s.vm.findClass RX6 = some m.cls := findClass_of_methodNamed B.named
  have hlocks := B.notSynchronized
  have hinX6 : ∀ w ∈ wsX60, w ∈ wsX6_chance := by decide +kernel
  have hl := lv_entry ([.ref bx, .int v]) (n := 2) (Nat.le_of_ble_eq_true rfl)
  rw [lg_entry_eq]
  generalize (lg_sl ([.ref bx, .int v]) ++ List.replicate (2 - (lg_sl ([.ref bx, .int v])).length) Slot.unset).toArray = ls at hl ⊢
  have hl : lv_has ls 2 [(0, .ref bx), (1, .int v)] := hl
  have hS : va_S (zA [bx, ba, bh, bt, bf, bw, bs, bm, bn, bb, bu]) s.heap s.heap [] := va_S.rf
  have hDD : zD (zA [bx, ba, bh, bt, bf, bw, bs, bm, bn, bb, bu]) [bx, ba, bh, bt, bf, bw, bs, bm, bn, bb, bu] := ⟨hnd, fun _ h => h⟩
  generalize hQe : MQ below _ _ _ _ _ _ = Q
  refine lv_aload_n hx hb dX6_chance_0 rfl (lv_at hl 0 rfl) ?_
  refine lv_iconst (v := 0) hx hb dX6_chance_1 (by decide) ?_
  refine va_put (D := (dC, dI)) (ci := 3) (v := .int 0) (ty := .int) (C := RX6) (T := TX6) (N := 19) hx hb hts hinX6 tyX6 tyX6_ok nmX6 hown hK hP (hDD.va rfl) hS 0 rfl rfl 0 (by decide) (hts (.fieldLink RX6 64 "RoyalUrTableModel" "thrown" "I") (List.mem_of_getElem? (i := 1) rfl)) (fun _ h9 => h9) rfl (by decide +kernel) rfl rfl (Nat.le_of_ble_eq_true rfl) dX6_chance_2 (fun H locs hP hD9 hS => ?_)
  have hP : va_P (dC, dI) vwCl [(bx, .inr (3, [.int 0, .int (nI k), .int (nI sd), .int tI, .int wI, .int cI, .ref bl, .ref ba, .ref bt, .ref bg, .ref be, .ref bf, .ref bw, .ref bs, .ref bm, .ref bn, .ref bb, .ref bu, .ref bh])), (ba, .inl (cyI, 32, .inl Af)), (bh, .inl (cyI, 15, .inl hf)), (bt, .inl (cyI, 5, .inl tf)), (bf, .inl (cyI, 225, .inl ff)), (bw, .inl (cyI, 160, .inl u0.1)), (bs, .inl (cyI, 5, .inl u0.2.1)), (bm, .inl (cyI, 5, .inl u0.2.2.1)), (bn, .inl (cyI, 5, .inl u0.2.2.2.1)), (bb, .inl (cyI, 5, .inl u0.2.2.2.2.1)), (bu, .inl (cyJ, 5, .inr (.inl u0.2.2.2.2.2)))] H := hP
  refine lv_iload_n hx hb dX6_chance_5 rfl (lv_at hl 1 rfl) ?_
  refine lv_iconst (v := 0) hx hb dX6_chance_6 (by decide) ?_
  refine lv_iconst (v := 3) hx hb dX6_chance_7 (by decide) ?_
  refine zro_i (va_runS (As := [.int v, .int 0, .int 3]) (rest := []) ⟨hx, hb, hml, hown, hts⟩ (c_X6_in l v 0 3) (va_cwS 3 hts gX6_chance_X6_in rfl rfl rfl (by decide +kernel) ⟨Nat.le_of_ble_eq_true rfl, Nat.le_of_ble_eq_true rfl⟩) zPu rfl rfl hl.1 rfl (lv_room (Nat.le_of_ble_eq_true rfl)) dX6_chance_8 ⟨Nat.zero_le _, Nat.zero_le _⟩) hP hS (fun H locs hP hS => ?_)
  refine lv_if_ne (tgt := 21) hx hb dX6_chance_11 (by decide) (fun c_11 => ?_) (fun c_11 => ?_)
  · skip
    have c_11 := bI_1.mp c_11
    obtain ⟨d, hd, rfl⟩ := zin_b (n := 3) (by decide) c_11
    refine lv_aload_n hx hb dX6_chance_21 rfl (lv_at hl 0 rfl) ?_
    refine lv_iload_n hx hb dX6_chance_22 rfl (lv_at hl 1 rfl) ?_
    refine zrw_i (w1 := fun u : (Nat → Int32) × zU => [(bx, .inr (3, [.int 0, .int (nI k), .int (nI sd), .int tI, .int wI, .int cI, .ref bl, .ref ba, .ref bt, .ref bg, .ref be, .ref bf, .ref bw, .ref bs, .ref bm, .ref bn, .ref bb, .ref bu, .ref bh])), (ba, .inl (cyI, 32, .inl Af)), (bh, .inl (cyI, 15, .inl u.1)), (bt, .inl (cyI, 5, .inl tf)), (bf, .inl (cyI, 225, .inl ff)), (bw, .inl (cyI, 160, .inl u.2.1)), (bs, .inl (cyI, 5, .inl u.2.2.1)), (bm, .inl (cyI, 5, .inl u.2.2.2.1)), (bn, .inl (cyI, 5, .inl u.2.2.2.2.1)), (bb, .inl (cyI, 5, .inl u.2.2.2.2.2.1)), (bu, .inl (cyJ, 5, .inr (.inl u.2.2.2.2.2.2)))]) (al := [bx, ba, bh, bt, bf, bw, bs, bm, bn, bb, bu]) (va_runV (As := [.int (nI d)]) (rest := []) ⟨hx, hb, hml, hown, hts⟩ (c_X6_worthNow l dC dI cyI cyJ k hk1 bx bl ba bt bg be bf bw bs bm bn bb bu bh 0 tI wI cI tf ff Af hf htf hff u0 sd own oth mm d (by omega) hsd hO hQ hrow hmk hmm hhas (z_nd hDD.1 [0, 1, 2, 3, 4, 5, 6, 7, 8, 9, 10] (by decide) rfl)) (cwV 1 hts gX6_chance_X6_worthNow rfl rfl rfl (by decide +kernel) ⟨Nat.le_of_ble_eq_true rfl, Nat.le_of_ble_eq_true rfl⟩) (zPc_V (ci := 3) (q0 := 0) zB_T hP hK rfl rfl [0, 1, 2, 3, 4, 5, 6, 7, 8, 9, 10] rfl (fun _ _ _ => trivial)) rfl rfl hl.1 rfl (lv_room (Nat.le_of_ble_eq_true rfl)) dX6_chance_23 ⟨Nat.zero_le _, Nat.zero_le _⟩) hP hDD hS [0, 1, 2, 3, 4, 5, 6, 7, 8, 9, 10] rfl (fun _ => rfl) (fun r_23 u_23 H locs hw_23 hP hS => ?_)
    have hP : va_P (dC, dI) vwCl [(bx, .inr (3, [.int 0, .int (nI k), .int (nI sd), .int tI, .int wI, .int cI, .ref bl, .ref ba, .ref bt, .ref bg, .ref be, .ref bf, .ref bw, .ref bs, .ref bm, .ref bn, .ref bb, .ref bu, .ref bh])), (ba, .inl (cyI, 32, .inl Af)), (bh, .inl (cyI, 15, .inl u_23.1)), (bt, .inl (cyI, 5, .inl tf)), (bf, .inl (cyI, 225, .inl ff)), (bw, .inl (cyI, 160, .inl u_23.2.1)), (bs, .inl (cyI, 5, .inl u_23.2.2.1)), (bm, .inl (cyI, 5, .inl u_23.2.2.2.1)), (bn, .inl (cyI, 5, .inl u_23.2.2.2.2.1)), (bb, .inl (cyI, 5, .inl u_23.2.2.2.2.2.1)), (bu, .inl (cyJ, 5, .inr (.inl u_23.2.2.2.2.2.2)))] H := hP
    refine lv_i2d hx hb dX6_chance_26 ?_
    refine lv_ldc2d (v := 4741671816366391296) hx hb hown (hts (.constantDouble RX6 153 (4741671816366391296)) (List.mem_of_getElem? (i := 2) rfl)) dX6_chance_27 ?_
    refine lv_ddiv hx hb dX6_chance_30 (zch r_23) ?_
    subst hQe
    exact W.dret (v := zCh r_23) hx hb hr (fun t ht hW => ⟨⟨_, (0, u_23.1, (u_23.2.1, u_23.2.2.1, u_23.2.2.2.1, u_23.2.2.2.2.1, u_23.2.2.2.2.2.1, u_23.2.2.2.2.2.2)), rfl, Or.inl ⟨rfl, d, hd, rfl, (by rw [hw_23])⟩, zh ht hP⟩, hS.F ht⟩) hS.2.2 dX6_chance_31
  · skip
    have c_11 := bI_0.mp c_11
    refine lv_aload_n hx hb dX6_chance_14 rfl (lv_at hl 0 rfl) ?_
    refine lv_iconst (v := 1) hx hb dX6_chance_15 (by decide) ?_
    refine zrw_i (w1 := fun _ : Unit => [(bx, .inr (3, [.int 1, .int (nI k), .int (nI sd), .int tI, .int wI, .int cI, .ref bl, .ref ba, .ref bt, .ref bg, .ref be, .ref bf, .ref bw, .ref bs, .ref bm, .ref bn, .ref bb, .ref bu, .ref bh]))]) (al := [bx]) (va_runV (As := [.int 1]) (rest := []) ⟨hx, hb, hml, hown, hts⟩ (c_X6_fails l dC dI cyI cyJ k bx bl ba bt bg be bf bw bs bm bn bb bu bh 0 (nI sd) tI wI cI 1 (z_nd hDD.1 [0] (by decide) rfl)) (cwV 1 hts gX6_chance_X6_fails rfl rfl rfl (by decide +kernel) ⟨Nat.le_of_ble_eq_true rfl, Nat.le_of_ble_eq_true rfl⟩) (zPc_V (ci := 3) (q0 := 0) zB_T hP hK rfl rfl [0] rfl (fun _ _ _ => trivial)) rfl rfl hl.1 rfl (lv_room (Nat.le_of_ble_eq_true rfl)) dX6_chance_16 ⟨Nat.zero_le _, Nat.zero_le _⟩) hP hDD hS [0] rfl (fun _ => rfl) (fun r_16 u_16 H locs hw_16 hP hS => ?_)
    have hP : va_P (dC, dI) vwCl [(bx, .inr (3, [.int 1, .int (nI k), .int (nI sd), .int tI, .int wI, .int cI, .ref bl, .ref ba, .ref bt, .ref bg, .ref be, .ref bf, .ref bw, .ref bs, .ref bm, .ref bn, .ref bb, .ref bu, .ref bh])), (ba, .inl (cyI, 32, .inl Af)), (bh, .inl (cyI, 15, .inl hf)), (bt, .inl (cyI, 5, .inl tf)), (bf, .inl (cyI, 225, .inl ff)), (bw, .inl (cyI, 160, .inl u0.1)), (bs, .inl (cyI, 5, .inl u0.2.1)), (bm, .inl (cyI, 5, .inl u0.2.2.1)), (bn, .inl (cyI, 5, .inl u0.2.2.2.1)), (bb, .inl (cyI, 5, .inl u0.2.2.2.2.1)), (bu, .inl (cyJ, 5, .inr (.inl u0.2.2.2.2.2)))] H := hP
    refine lv_i2d hx hb dX6_chance_19 ?_
    subst hQe
    exact W.dret (v := FP.i2d r_16) hx hb hr (fun t ht hW => ⟨⟨_, (1, hf, (u0.1, u0.2.1, u0.2.2.1, u0.2.2.2.1, u0.2.2.2.2.1, u0.2.2.2.2.2)), rfl, Or.inr ⟨rfl, zin_bf (n := 3) (by decide) c_11⟩, zh ht hP⟩, hS.F ht⟩) hS.2.2 dX6_chance_20

/-! the reference's face: worths, ranks, endings, tell, move, begin -/
theorem zRow_sw9 {F : Nat → Int32} {sd own oth : Nat} (hsd : sd ≤ 1) (h : zRow F 0 sd own oth) : zRow F 0 (1 - sd) oth own := h.sw hsd
set_option maxHeartbeats 4000000 in
set_option maxRecDepth 100000 in
theorem c_X6_worth (l : Launch) (dC : Nat → ClassId) (dI : Nat → Nat → Nat) (cyI cyJ : ClassId) (k : Nat) (hk1 : 1 ≤ k) (bx bl ba bt bg be bf bw bs bm bn bb bu bh : Nat) (thr tI wI cI : Int32) (tf ff Af hf : Nat → Int32) (htf : ∀ j, j < 5 → tf j = nI (ztm j)) (hff : zFt 40 ff) (u0 : zU) (sd own oth mm : Nat) (hsd : sd ≤ 1) (hO : zok k own) (hQ : zok k oth) (hrow : zRow Af 0 sd own oth) (hmk : zmk tI mm) (hmm : mm ≤ 4) (hhas : ¬ tI = -1 → zHas own oth mm 15 = true) (v : Int32) (hnd : [bx, ba, bh, bt, bf, bw, bs, bm, bn, bb, bu].Nodup) : Met l yX6_worth wsX6_worth ({ frames := 7, cells := 0, slots := 0, locals := 167 }) (zPc [.ref bx, .int v] (dC, dI) vwCl [(cyI, .int), (cyJ, .long)] [(bx, .inr (3, [.int thr, .int (nI k), .int (nI sd), .int tI, .int wI, .int cI, .ref bl, .ref ba, .ref bt, .ref bg, .ref be, .ref bf, .ref bw, .ref bs, .ref bm, .ref bn, .ref bb, .ref bu, .ref bh])), (ba, .inl (cyI, 32, .inl Af)), (bh, .inl (cyI, 15, .inl hf)), (bt, .inl (cyI, 5, .inl tf)), (bf, .inl (cyI, 225, .inl ff)), (bw, .inl (cyI, 160, .inl u0.1)), (bs, .inl (cyI, 5, .inl u0.2.1)), (bm, .inl (cyI, 5, .inl u0.2.2.1)), (bn, .inl (cyI, 5, .inl u0.2.2.2.1)), (bb, .inl (cyI, 5, .inl u0.2.2.2.2.1)), (bu, .inl (cyJ, 5, .inr (.inl u0.2.2.2.2.2)))] (fun _ => True)) (va_Qi (fun (r : Int32) (u : Int32 × (Nat → Int32) × zU) => (u.1 = 0 ∧ ∃ d, d ≤ 3 ∧ v = nI d ∧ r = (if sd = 0 then zWT k sd wI tI mm d own oth else 1000000000 - zWT k sd wI tI mm d own oth)) ∨ (u.1 = 1 ∧ ¬ (0 ≤ v ∧ v ≤ 3))) (fun (u : Int32 × (Nat → Int32) × zU) t => va_P (dC, dI) vwCl ([(bx, .inr (3, [.int u.1, .int (nI k), .int (nI sd), .int tI, .int wI, .int cI, .ref bl, .ref ba, .ref bt, .ref bg, .ref be, .ref bf, .ref bw, .ref bs, .ref bm, .ref bn, .ref bb, .ref bu, .ref bh])), (ba, .inl (cyI, 32, .inl Af)), (bh, .inl (cyI, 15, .inl u.2.1)), (bt, .inl (cyI, 5, .inl tf)), (bf, .inl (cyI, 225, .inl ff)), (bw, .inl (cyI, 160, .inl u.2.2.1)), (bs, .inl (cyI, 5, .inl u.2.2.2.1)), (bm, .inl (cyI, 5, .inl u.2.2.2.2.1)), (bn, .inl (cyI, 5, .inl u.2.2.2.2.2.1)), (bb, .inl (cyI, 5, .inl u.2.2.2.2.2.2.1)), (bu, .inl (cyJ, 5, .inr (.inl u.2.2.2.2.2.2.2)))]) t.heap) (zA [bx, ba, bh, bt, bf, bw, bs, bm, bn, bb, bu])) 0 0 (zA [bx, ba, bh, bt, bf, bw, bs, bm, bn, bb, bu]) := by
  refine Met.ofW (cc := cX6_worth) (maxL := 2) (ret := (some .int)) (by decide) rfl ?_
  intro p e s m args below meth c s₁ B hml hv
  obtain ⟨rfl, hP, hK, hX⟩ := hv
  have hx := B.exec
  have hb := B.bytes
  have hr := B.returns
  have hts := atoms_spec (ws := wsX6_worth) B.pre
  have hown : s.vm.findClass RX6 = some m.cls := findClass_of_methodNamed B.named
  have hlocks := B.notSynchronized
  have hinX6 : ∀ w ∈ wsX60, w ∈ wsX6_worth := by decide +kernel
  have hl := lv_entry ([.ref bx, .int v]) (n := 2) (Nat.le_of_ble_eq_true rfl)
  rw [lg_entry_eq]
  generalize (lg_sl ([.ref bx, .int v]) ++ List.replicate (2 - (lg_sl ([.ref bx, .int v])).length) Slot.unset).toArray = ls at hl ⊢
  have hl : lv_has ls 2 [(0, .ref bx), (1, .int v)] := hl
  have hS : va_S (zA [bx, ba, bh, bt, bf, bw, bs, bm, bn, bb, bu]) s.heap s.heap [] := va_S.rf
  have hDD : zD (zA [bx, ba, bh, bt, bf, bw, bs, bm, bn, bb, bu]) [bx, ba, bh, bt, bf, bw, bs, bm, bn, bb, bu] := ⟨hnd, fun _ h => h⟩
  refine lv_aload_n hx hb dX6_worth_0 rfl (lv_at hl 0 rfl) ?_
  refine lv_iconst (v := 0) hx hb dX6_worth_1 (by decide) ?_
  refine va_put (D := (dC, dI)) (ci := 3) (v := .int 0) (ty := .int) (C := RX6) (T := TX6) (N := 19) hx hb hts hinX6 tyX6 tyX6_ok nmX6 hown hK hP (hDD.va rfl) hS 0 rfl rfl 0 (by decide) (hts (.fieldLink RX6 64 "RoyalUrTableModel" "thrown" "I") (List.mem_of_getElem? (i := 1) rfl)) (fun _ h9 => h9) rfl (by decide +kernel) rfl rfl (Nat.le_of_ble_eq_true rfl) dX6_worth_2 (fun H locs hP hD9 hS => ?_)
  have hP : va_P (dC, dI) vwCl [(bx, .inr (3, [.int 0, .int (nI k), .int (nI sd), .int tI, .int wI, .int cI, .ref bl, .ref ba, .ref bt, .ref bg, .ref be, .ref bf, .ref bw, .ref bs, .ref bm, .ref bn, .ref bb, .ref bu, .ref bh])), (ba, .inl (cyI, 32, .inl Af)), (bh, .inl (cyI, 15, .inl hf)), (bt, .inl (cyI, 5, .inl tf)), (bf, .inl (cyI, 225, .inl ff)), (bw, .inl (cyI, 160, .inl u0.1)), (bs, .inl (cyI, 5, .inl u0.2.1)), (bm, .inl (cyI, 5, .inl u0.2.2.1)), (bn, .inl (cyI, 5, .inl u0.2.2.2.1)), (bb, .inl (cyI, 5, .inl u0.2.2.2.2.1)), (bu, .inl (cyJ, 5, .inr (.inl u0.2.2.2.2.2)))] H := hP
  refine lv_iload_n hx hb dX6_worth_5 rfl (lv_at hl 1 rfl) ?_
  refine lv_iconst (v := 0) hx hb dX6_worth_6 (by decide) ?_
  refine lv_iconst (v := 3) hx hb dX6_worth_7 (by decide) ?_
  refine zro_i (va_runS (As := [.int v, .int 0, .int 3]) (rest := []) ⟨hx, hb, hml, hown, hts⟩ (c_X6_in l v 0 3) (va_cwS 3 hts gX6_worth_X6_in rfl rfl rfl (by decide +kernel) ⟨Nat.le_of_ble_eq_true rfl, Nat.le_of_ble_eq_true rfl⟩) zPu rfl rfl hl.1 rfl (lv_room (Nat.le_of_ble_eq_true rfl)) dX6_worth_8 ⟨Nat.zero_le _, Nat.zero_le _⟩) hP hS (fun H locs hP hS => ?_)
  refine lv_if_ne (tgt := 20) hx hb dX6_worth_11 (by decide) (fun c_11 => ?_) (fun c_11 => ?_)
  · skip
    have c_11 := bI_1.mp c_11
    obtain ⟨d, hd, rfl⟩ := zin_b (n := 3) (by decide) c_11
    refine lv_aload_n hx hb dX6_worth_20 rfl (lv_at hl 0 rfl) ?_
    refine va_get (D := (dC, dI)) (ci := 3) (v := .int (nI sd)) (C := RX6) (T := TX6) (N := 19) hx hb hts hinX6 hown hK hP 0 rfl rfl 2 (by decide) (hts (.fieldLink RX6 128 "RoyalUrTableModel" "side" "I") (List.mem_of_getElem? (i := 2) rfl)) (fun _ h9 => h9) rfl dX6_worth_21 ?_
    refine lv_if_ne (tgt := 35) hx hb dX6_worth_24 (by decide) (fun c_24 => ?_) (fun c_24 => ?_)
    · skip
      have c_24 : ¬ sd = 0 := fun h9 => c_24 ((nI_eq (a := sd) (b := 0) (by omega) (by omega)).mpr h9)
      refine lv_ldc (v := 1000000000) hx hb hown (hts (.constant RX6 71 (1000000000)) (List.mem_of_getElem? (i := 3) rfl)) dX6_worth_35 ?_
      refine lv_aload_n hx hb dX6_worth_37 rfl (lv_at hl 0 rfl) ?_
      refine lv_iload_n hx hb dX6_worth_38 rfl (lv_at hl 1 rfl) ?_
      refine zrw_i (w1 := fun u : (Nat → Int32) × zU => [(bx, .inr (3, [.int 0, .int (nI k), .int (nI sd), .int tI, .int wI, .int cI, .ref bl, .ref ba, .ref bt, .ref bg, .ref be, .ref bf, .ref bw, .ref bs, .ref bm, .ref bn, .ref bb, .ref bu, .ref bh])), (ba, .inl (cyI, 32, .inl Af)), (bh, .inl (cyI, 15, .inl u.1)), (bt, .inl (cyI, 5, .inl tf)), (bf, .inl (cyI, 225, .inl ff)), (bw, .inl (cyI, 160, .inl u.2.1)), (bs, .inl (cyI, 5, .inl u.2.2.1)), (bm, .inl (cyI, 5, .inl u.2.2.2.1)), (bn, .inl (cyI, 5, .inl u.2.2.2.2.1)), (bb, .inl (cyI, 5, .inl u.2.2.2.2.2.1)), (bu, .inl (cyJ, 5, .inr (.inl u.2.2.2.2.2.2)))]) (al := [bx, ba, bh, bt, bf, bw, bs, bm, bn, bb, bu]) (va_runV (As := [.int (nI d)]) (rest := [.int 1000000000]) ⟨hx, hb, hml, hown, hts⟩ (c_X6_worthNow l dC dI cyI cyJ k hk1 bx bl ba bt bg be bf bw bs bm bn bb bu bh 0 tI wI cI tf ff Af hf htf hff u0 sd own oth mm d (by omega) hsd hO hQ hrow hmk hmm hhas (z_nd hDD.1 [0, 1, 2, 3, 4, 5, 6, 7, 8, 9, 10] (by decide) rfl)) (cwV 1 hts gX6_worth_X6_worthNow rfl rfl rfl (by decide +kernel) ⟨Nat.le_of_ble_eq_true rfl, Nat.le_of_ble_eq_true rfl⟩) (zPc_V (ci := 3) (q0 := 0) zB_T hP hK rfl rfl [0, 1, 2, 3, 4, 5, 6, 7, 8, 9, 10] rfl (fun _ _ _ => trivial)) rfl rfl hl.1 rfl (lv_room (Nat.le_of_ble_eq_true rfl)) dX6_worth_39 ⟨Nat.zero_le _, Nat.zero_le _⟩) hP hDD hS [0, 1, 2, 3, 4, 5, 6, 7, 8, 9, 10] rfl (fun _ => rfl) (fun r_39 u_39 H locs hw_39 hP hS => ?_)
      have hP : va_P (dC, dI) vwCl [(bx, .inr (3, [.int 0, .int (nI k), .int (nI sd), .int tI, .int wI, .int cI, .ref bl, .ref ba, .ref bt, .ref bg, .ref be, .ref bf, .ref bw, .ref bs, .ref bm, .ref bn, .ref bb, .ref bu, .ref bh])), (ba, .inl (cyI, 32, .inl Af)), (bh, .inl (cyI, 15, .inl u_39.1)), (bt, .inl (cyI, 5, .inl tf)), (bf, .inl (cyI, 225, .inl ff)), (bw, .inl (cyI, 160, .inl u_39.2.1)), (bs, .inl (cyI, 5, .inl u_39.2.2.1)), (bm, .inl (cyI, 5, .inl u_39.2.2.2.1)), (bn, .inl (cyI, 5, .inl u_39.2.2.2.2.1)), (bb, .inl (cyI, 5, .inl u_39.2.2.2.2.2.1)), (bu, .inl (cyJ, 5, .inr (.inl u_39.2.2.2.2.2.2)))] H := hP
      refine lv_isub hx hb dX6_worth_42 ?_
      exact W.iret (v := 1000000000 - r_39) hx hb hr (fun t ht hW => ⟨⟨_, (0, u_39.1, (u_39.2.1, u_39.2.2.1, u_39.2.2.2.1, u_39.2.2.2.2.1, u_39.2.2.2.2.2.1, u_39.2.2.2.2.2.2)), rfl, Or.inl ⟨rfl, d, hd, rfl, (by rw [if_neg c_24, hw_39])⟩, zh ht hP⟩, hS.F ht⟩) hS.2.2 dX6_worth_43
    · skip
      have c_24 : sd = 0 := (nI_eq (a := sd) (b := 0) (by omega) (by omega)).mp c_24
      refine lv_aload_n hx hb dX6_worth_27 rfl (lv_at hl 0 rfl) ?_
      refine lv_iload_n hx hb dX6_worth_28 rfl (lv_at hl 1 rfl) ?_
      refine zrw_i (w1 := fun u : (Nat → Int32) × zU => [(bx, .inr (3, [.int 0, .int (nI k), .int (nI sd), .int tI, .int wI, .int cI, .ref bl, .ref ba, .ref bt, .ref bg, .ref be, .ref bf, .ref bw, .ref bs, .ref bm, .ref bn, .ref bb, .ref bu, .ref bh])), (ba, .inl (cyI, 32, .inl Af)), (bh, .inl (cyI, 15, .inl u.1)), (bt, .inl (cyI, 5, .inl tf)), (bf, .inl (cyI, 225, .inl ff)), (bw, .inl (cyI, 160, .inl u.2.1)), (bs, .inl (cyI, 5, .inl u.2.2.1)), (bm, .inl (cyI, 5, .inl u.2.2.2.1)), (bn, .inl (cyI, 5, .inl u.2.2.2.2.1)), (bb, .inl (cyI, 5, .inl u.2.2.2.2.2.1)), (bu, .inl (cyJ, 5, .inr (.inl u.2.2.2.2.2.2)))]) (al := [bx, ba, bh, bt, bf, bw, bs, bm, bn, bb, bu]) (va_runV (As := [.int (nI d)]) (rest := []) ⟨hx, hb, hml, hown, hts⟩ (c_X6_worthNow l dC dI cyI cyJ k hk1 bx bl ba bt bg be bf bw bs bm bn bb bu bh 0 tI wI cI tf ff Af hf htf hff u0 sd own oth mm d (by omega) hsd hO hQ hrow hmk hmm hhas (z_nd hDD.1 [0, 1, 2, 3, 4, 5, 6, 7, 8, 9, 10] (by decide) rfl)) (cwV 1 hts gX6_worth_X6_worthNow rfl rfl rfl (by decide +kernel) ⟨Nat.le_of_ble_eq_true rfl, Nat.le_of_ble_eq_true rfl⟩) (zPc_V (ci := 3) (q0 := 0) zB_T hP hK rfl rfl [0, 1, 2, 3, 4, 5, 6, 7, 8, 9, 10] rfl (fun _ _ _ => trivial)) rfl rfl hl.1 rfl (lv_room (Nat.le_of_ble_eq_true rfl)) dX6_worth_29 ⟨Nat.zero_le _, Nat.zero_le _⟩) hP hDD hS [0, 1, 2, 3, 4, 5, 6, 7, 8, 9, 10] rfl (fun _ => rfl) (fun r_29 u_29 H locs hw_29 hP hS => ?_)
      have hP : va_P (dC, dI) vwCl [(bx, .inr (3, [.int 0, .int (nI k), .int (nI sd), .int tI, .int wI, .int cI, .ref bl, .ref ba, .ref bt, .ref bg, .ref be, .ref bf, .ref bw, .ref bs, .ref bm, .ref bn, .ref bb, .ref bu, .ref bh])), (ba, .inl (cyI, 32, .inl Af)), (bh, .inl (cyI, 15, .inl u_29.1)), (bt, .inl (cyI, 5, .inl tf)), (bf, .inl (cyI, 225, .inl ff)), (bw, .inl (cyI, 160, .inl u_29.2.1)), (bs, .inl (cyI, 5, .inl u_29.2.2.1)), (bm, .inl (cyI, 5, .inl u_29.2.2.2.1)), (bn, .inl (cyI, 5, .inl u_29.2.2.2.2.1)), (bb, .inl (cyI, 5, .inl u_29.2.2.2.2.2.1)), (bu, .inl (cyJ, 5, .inr (.inl u_29.2.2.2.2.2.2)))] H := hP
      refine lv_goto (tgt := 43) hx hb dX6_worth_32 (by decide) ?_
      exact W.iret (v := r_29) hx hb hr (fun t ht hW => ⟨⟨_, (0, u_29.1, (u_29.2.1, u_29.2.2.1, u_29.2.2.2.1, u_29.2.2.2.2.1, u_29.2.2.2.2.2.1, u_29.2.2.2.2.2.2)), rfl, Or.inl ⟨rfl, d, hd, rfl, (by rw [if_pos c_24, hw_29])⟩, zh ht hP⟩, hS.F ht⟩) hS.2.2 dX6_worth_43
  · skip
    have c_11 := bI_0.mp c_11
    refine lv_aload_n hx hb dX6_worth_14 rfl (lv_at hl 0 rfl) ?_
    refine lv_iconst (v := 1) hx hb dX6_worth_15 (by decide) ?_
    refine zrw_i (w1 := fun _ : Unit => [(bx, .inr (3, [.int 1, .int (nI k), .int (nI sd), .int tI, .int wI, .int cI, .ref bl, .ref ba, .ref bt, .ref bg, .ref be, .ref bf, .ref bw, .ref bs, .ref bm, .ref bn, .ref bb, .ref bu, .ref bh]))]) (al := [bx]) (va_runV (As := [.int 1]) (rest := []) ⟨hx, hb, hml, hown, hts⟩ (c_X6_fails l dC dI cyI cyJ k bx bl ba bt bg be bf bw bs bm bn bb bu bh 0 (nI sd) tI wI cI 1 (z_nd hDD.1 [0] (by decide) rfl)) (cwV 1 hts gX6_worth_X6_fails rfl rfl rfl (by decide +kernel) ⟨Nat.le_of_ble_eq_true rfl, Nat.le_of_ble_eq_true rfl⟩) (zPc_V (ci := 3) (q0 := 0) zB_T hP hK rfl rfl [0] rfl (fun _ _ _ => trivial)) rfl rfl hl.1 rfl (lv_room (Nat.le_of_ble_eq_true rfl)) dX6_worth_16 ⟨Nat.zero_le _, Nat.zero_le _⟩) hP hDD hS [0] rfl (fun _ => rfl) (fun r_16 u_16 H locs hw_16 hP hS => ?_)
    have hP : va_P (dC, dI) vwCl [(bx, .inr (3, [.int 1, .int (nI k), .int (nI sd), .int tI, .int wI, .int cI, .ref bl, .ref ba, .ref bt, .ref bg, .ref be, .ref bf, .ref bw, .ref bs, .ref bm, .ref bn, .ref bb, .ref bu, .ref bh])), (ba, .inl (cyI, 32, .inl Af)), (bh, .inl (cyI, 15, .inl hf)), (bt, .inl (cyI, 5, .inl tf)), (bf, .inl (cyI, 225, .inl ff)), (bw, .inl (cyI, 160, .inl u0.1)), (bs, .inl (cyI, 5, .inl u0.2.1)), (bm, .inl (cyI, 5, .inl u0.2.2.1)), (bn, .inl (cyI, 5, .inl u0.2.2.2.1)), (bb, .inl (cyI, 5, .inl u0.2.2.2.2.1)), (bu, .inl (cyJ, 5, .inr (.inl u0.2.2.2.2.2)))] H := hP
    exact W.iret (v := r_16) hx hb hr (fun t ht hW => ⟨⟨_, (1, hf, (u0.1, u0.2.1, u0.2.2.1, u0.2.2.2.1, u0.2.2.2.2.1, u0.2.2.2.2.2)), rfl, Or.inr ⟨rfl, zin_bf (n := 3) (by decide) c_11⟩, zh ht hP⟩, hS.F ht⟩) hS.2.2 dX6_worth_19

set_option maxHeartbeats 4000000 in
set_option maxRecDepth 100000 in
theorem c_X6_ranked (l : Launch) (dC : Nat → ClassId) (dI : Nat → Nat → Nat) (cyI cyJ : ClassId) (k : Nat) (hk1 : 1 ≤ k) (bx bl ba bt bg be bf bw bs bm bn bb bu bh : Nat) (thr tI wI cI : Int32) (tf ff Af hf : Nat → Int32) (htf : ∀ j, j < 5 → tf j = nI (ztm j)) (hff : zFt 40 ff) (u0 : zU) (sd own oth mm : Nat) (hsd : sd ≤ 1) (hO : zok k own) (hQ : zok k oth) (hrow : zRow Af 0 sd own oth) (hmk : zmk tI mm) (hmm : mm ≤ 4) (v w9 : Int32) (hnd : [bx, ba, bh, bt, bf, bw, bs, bm, bn, bb, bu].Nodup) : Met l yX6_ranked wsX6_ranked ({ frames := 6, cells := 0, slots := 0, locals := 144 }) (zPc [.ref bx, .int v, .int w9] (dC, dI) vwCl [(cyI, .int), (cyJ, .long)] [(bx, .inr (3, [.int thr, .int (nI k), .int (nI sd), .int tI, .int wI, .int cI, .ref bl, .ref ba, .ref bt, .ref bg, .ref be, .ref bf, .ref bw, .ref bs, .ref bm, .ref bn, .ref bb, .ref bu, .ref bh])), (ba, .inl (cyI, 32, .inl Af)), (bh, .inl (cyI, 15, .inl hf)), (bt, .inl (cyI, 5, .inl tf)), (bf, .inl (cyI, 225, .inl ff)), (bw, .inl (cyI, 160, .inl u0.1)), (bs, .inl (cyI, 5, .inl u0.2.1)), (bm, .inl (cyI, 5, .inl u0.2.2.1)), (bn, .inl (cyI, 5, .inl u0.2.2.2.1)), (bb, .inl (cyI, 5, .inl u0.2.2.2.2.1)), (bu, .inl (cyJ, 5, .inr (.inl u0.2.2.2.2.2)))] (fun _ => True)) (va_Qi (fun (r : Int32) (u : Int32 × (Nat → Int32) × zU) => (u.1 = 0 ∧ ∃ d, d ≤ 3 ∧ v = nI d ∧ 0 ≤ w9 ∧ r = zRk (zWB k d own oth mm) w9 0 15) ∨ (u.1 = 1 ∧ ¬ ((0 ≤ v ∧ v ≤ 3) ∧ 0 ≤ w9))) (fun (u : Int32 × (Nat → Int32) × zU) t => va_P (dC, dI) vwCl ([(bx, .inr (3, [.int u.1, .int (nI k), .int (nI sd), .int tI, .int wI, .int cI, .ref bl, .ref ba, .ref bt, .ref bg, .ref be, .ref bf, .ref bw, .ref bs, .ref bm, .ref bn, .ref bb, .ref bu, .ref bh])), (ba, .inl (cyI, 32, .inl Af)), (bh, .inl (cyI, 15, .inl u.2.1)), (bt, .inl (cyI, 5, .inl tf)), (bf, .inl (cyI, 225, .inl ff)), (bw, .inl (cyI, 160, .inl u.2.2.1)), (bs, .inl (cyI, 5, .inl u.2.2.2.1)), (bm, .inl (cyI, 5, .inl u.2.2.2.2.1)), (bn, .inl (cyI, 5, .inl u.2.2.2.2.2.1)), (bb, .inl (cyI, 5, .inl u.2.2.2.2.2.2.1)), (bu, .inl (cyJ, 5, .inr (.inl u.2.2.2.2.2.2.2)))]) t.heap) (zA [bx, ba, bh, bt, bf, bw, bs, bm, bn, bb, bu])) 0 0 (zA [bx, ba, bh, bt, bf, bw, bs, bm, bn, bb, bu]) := by
  refine Met.ofW (cc := cX6_ranked) (maxL := 8) (ret := (some .int)) (by decide) rfl ?_
  intro p e s m args below meth c s₁ B hml hv
  obtain ⟨rfl, hP, hK, hX⟩ := hv
  have hx := B.exec
  have hb := B.bytes
  have hr := B.returns
  have hts := atoms_spec (ws := wsX6_ranked) B.pre
  have hown : s.vm.findClass RX6 = some m.cls := findClass_of_methodNamed B.named
  have hlocks := B.notSynchronized
  have hinX6 : ∀ w ∈ wsX60, w ∈ wsX6_ranked := by decide +kernel
  have hl := lv_entry ([.ref bx, .int v, .int w9]) (n := 8) (Nat.le_of_ble_eq_true rfl)
  rw [lg_entry_eq]
  generalize (lg_sl ([.ref bx, .int v, .int w9]) ++ List.replicate (8 - (lg_sl ([.ref bx, .int v, .int w9])).length) Slot.unset).toArray = ls at hl ⊢
  have hl : lv_has ls 8 [(0, .ref bx), (1, .int v), (2, .int w9)] := hl
  have hS : va_S (zA [bx, ba, bh, bt, bf, bw, bs, bm, bn, bb, bu]) s.heap s.heap [] := va_S.rf
  have hDD : zD (zA [bx, ba, bh, bt, bf, bw, bs, bm, bn, bb, bu]) [bx, ba, bh, bt, bf, bw, bs, bm, bn, bb, bu] := ⟨hnd, fun _ h => h⟩
  generalize hQe : MQ below _ _ _ _ _ _ = Q
  refine lv_aload_n hx hb dX6_ranked_0 rfl (lv_at hl 0 rfl) ?_
  refine lv_iconst (v := 0) hx hb dX6_ranked_1 (by decide) ?_
  refine va_put (D := (dC, dI)) (ci := 3) (v := .int 0) (ty := .int) (C := RX6) (T := TX6) (N := 19) hx hb hts hinX6 tyX6 tyX6_ok nmX6 hown hK hP (hDD.va rfl) hS 0 rfl rfl 0 (by decide) (hts (.fieldLink RX6 64 "RoyalUrTableModel" "thrown" "I") (List.mem_of_getElem? (i := 1) rfl)) (fun _ h9 => h9) rfl (by decide +kernel) rfl rfl (Nat.le_of_ble_eq_true rfl) dX6_ranked_2 (fun H locs hP hD9 hS => ?_)
  have hP : va_P (dC, dI) vwCl [(bx, .inr (3, [.int 0, .int (nI k), .int (nI sd), .int tI, .int wI, .int cI, .ref bl, .ref ba, .ref bt, .ref bg, .ref be, .ref bf, .ref bw, .ref bs, .ref bm, .ref bn, .ref bb, .ref bu, .ref bh])), (ba, .inl (cyI, 32, .inl Af)), (bh, .inl (cyI, 15, .inl hf)), (bt, .inl (cyI, 5, .inl tf)), (bf, .inl (cyI, 225, .inl ff)), (bw, .inl (cyI, 160, .inl u0.1)), (bs, .inl (cyI, 5, .inl u0.2.1)), (bm, .inl (cyI, 5, .inl u0.2.2.1)), (bn, .inl (cyI, 5, .inl u0.2.2.2.1)), (bb, .inl (cyI, 5, .inl u0.2.2.2.2.1)), (bu, .inl (cyJ, 5, .inr (.inl u0.2.2.2.2.2)))] H := hP
  refine lv_iload_n hx hb dX6_ranked_5 rfl (lv_at hl 1 rfl) ?_
  refine lv_iconst (v := 0) hx hb dX6_ranked_6 (by decide) ?_
  refine lv_iconst (v := 3) hx hb dX6_ranked_7 (by decide) ?_
  refine zro_i (va_runS (As := [.int v, .int 0, .int 3]) (rest := []) ⟨hx, hb, hml, hown, hts⟩ (c_X6_in l v 0 3) (va_cwS 3 hts gX6_ranked_X6_in rfl rfl rfl (by decide +kernel) ⟨Nat.le_of_ble_eq_true rfl, Nat.le_of_ble_eq_true rfl⟩) zPu rfl rfl hl.1 rfl (lv_room (Nat.le_of_ble_eq_true rfl)) dX6_ranked_8 ⟨Nat.zero_le _, Nat.zero_le _⟩) hP hS (fun H locs hP hS => ?_)
  refine lv_if_eq (tgt := 18) hx hb dX6_ranked_11 (by decide) (fun c_11 => ?_) (fun c_11 => ?_)
  · skip
    have c_11 := bI_0.mp c_11
    refine lv_aload_n hx hb dX6_ranked_18 rfl (lv_at hl 0 rfl) ?_
    refine lv_iconst (v := 1) hx hb dX6_ranked_19 (by decide) ?_
    refine zrw_i (w1 := fun _ : Unit => [(bx, .inr (3, [.int 1, .int (nI k), .int (nI sd), .int tI, .int wI, .int cI, .ref bl, .ref ba, .ref bt, .ref bg, .ref be, .ref bf, .ref bw, .ref bs, .ref bm, .ref bn, .ref bb, .ref bu, .ref bh]))]) (al := [bx]) (va_runV (As := [.int 1]) (rest := []) ⟨hx, hb, hml, hown, hts⟩ (c_X6_fails l dC dI cyI cyJ k bx bl ba bt bg be bf bw bs bm bn bb bu bh 0 (nI sd) tI wI cI 1 (z_nd hDD.1 [0] (by decide) rfl)) (cwV 1 hts gX6_ranked_X6_fails rfl rfl rfl (by decide +kernel) ⟨Nat.le_of_ble_eq_true rfl, Nat.le_of_ble_eq_true rfl⟩) (zPc_V (ci := 3) (q0 := 0) zB_T hP hK rfl rfl [0] rfl (fun _ _ _ => trivial)) rfl rfl hl.1 rfl (lv_room (Nat.le_of_ble_eq_true rfl)) dX6_ranked_20 ⟨Nat.zero_le _, Nat.zero_le _⟩) hP hDD hS [0] rfl (fun _ => rfl) (fun r_20 u_20 H locs hw_20 hP hS => ?_)
    have hP : va_P (dC, dI) vwCl [(bx, .inr (3, [.int 1, .int (nI k), .int (nI sd), .int tI, .int wI, .int cI, .ref bl, .ref ba, .ref bt, .ref bg, .ref be, .ref bf, .ref bw, .ref bs, .ref bm, .ref bn, .ref bb, .ref bu, .ref bh])), (ba, .inl (cyI, 32, .inl Af)), (bh, .inl (cyI, 15, .inl hf)), (bt, .inl (cyI, 5, .inl tf)), (bf, .inl (cyI, 225, .inl ff)), (bw, .inl (cyI, 160, .inl u0.1)), (bs, .inl (cyI, 5, .inl u0.2.1)), (bm, .inl (cyI, 5, .inl u0.2.2.1)), (bn, .inl (cyI, 5, .inl u0.2.2.2.1)), (bb, .inl (cyI, 5, .inl u0.2.2.2.2.1)), (bu, .inl (cyJ, 5, .inr (.inl u0.2.2.2.2.2)))] H := hP
    subst hQe
    exact W.iret (v := r_20) hx hb hr (fun t ht hW => ⟨⟨_, (1, hf, (u0.1, u0.2.1, u0.2.2.1, u0.2.2.2.1, u0.2.2.2.2.1, u0.2.2.2.2.2)), rfl, Or.inr ⟨rfl, fun h => zin_bf (n := 3) (by decide) c_11 h.1⟩, zh ht hP⟩, hS.F ht⟩) hS.2.2 dX6_ranked_23
  · skip
    have c_11 := bI_1.mp c_11
    obtain ⟨d, hd, rfl⟩ := zin_b (n := 3) (by decide) c_11
    refine lv_iload_n hx hb dX6_ranked_14 rfl (lv_at hl 2 rfl) ?_
    refine lv_if_ge (tgt := 24) hx hb dX6_ranked_15 (by decide) (fun c_15 => ?_) (fun c_15 => ?_)
    · skip
      refine lv_aload_n hx hb dX6_ranked_24 rfl (lv_at hl 0 rfl) ?_
      refine lv_iload_n hx hb dX6_ranked_25 rfl (lv_at hl 1 rfl) ?_
      refine zrw_v (w1 := fun u : (Nat → Int32) × zU => [(bx, .inr (3, [.int 0, .int (nI k), .int (nI sd), .int tI, .int wI, .int cI, .ref bl, .ref ba, .ref bt, .ref bg, .ref be, .ref bf, .ref bw, .ref bs, .ref bm, .ref bn, .ref bb, .ref bu, .ref bh])), (ba, .inl (cyI, 32, .inl Af)), (bh, .inl (cyI, 15, .inl u.1)), (bt, .inl (cyI, 5, .inl tf)), (bf, .inl (cyI, 225, .inl ff)), (bw, .inl (cyI, 160, .inl u.2.1)), (bs, .inl (cyI, 5, .inl u.2.2.1)), (bm, .inl (cyI, 5, .inl u.2.2.2.1)), (bn, .inl (cyI, 5, .inl u.2.2.2.2.1)), (bb, .inl (cyI, 5, .inl u.2.2.2.2.2.1)), (bu, .inl (cyJ, 5, .inr (.inl u.2.2.2.2.2.2)))]) (al := [bx, ba, bh, bt, bf, bw, bs, bm, bn, bb, bu]) (va_runV (As := [.int (nI d)]) (rest := []) ⟨hx, hb, hml, hown, hts⟩ (c_X6_layBehind l dC dI cyI cyJ k hk1 bx bl ba bt bg be bf bw bs bm bn bb bu bh 0 tI wI cI tf ff Af hf htf hff u0 sd own oth mm d (by omega) hsd hO hQ hrow hmk hmm (z_nd hDD.1 [0, 1, 2, 3, 4, 5, 6, 7, 8, 9, 10] (by decide) rfl)) (cwV 1 hts gX6_ranked_X6_layBehind rfl rfl rfl (by decide +kernel) ⟨Nat.le_of_ble_eq_true rfl, Nat.le_of_ble_eq_true rfl⟩) (zPc_V (ci := 3) (q0 := 0) zB_T hP hK rfl rfl [0, 1, 2, 3, 4, 5, 6, 7, 8, 9, 10] rfl (fun _ _ _ => trivial)) rfl rfl hl.1 rfl (lv_room (Nat.le_of_ble_eq_true rfl)) dX6_ranked_26 ⟨Nat.zero_le _, Nat.zero_le _⟩) hP hDD hS [0, 1, 2, 3, 4, 5, 6, 7, 8, 9, 10] rfl (fun _ => rfl) (fun u_26 H locs hw_26 hP hS => ?_)
      have hP : va_P (dC, dI) vwCl [(bx, .inr (3, [.int 0, .int (nI k), .int (nI sd), .int tI, .int wI, .int cI, .ref bl, .ref ba, .ref bt, .ref bg, .ref be, .ref bf, .ref bw, .ref bs, .ref bm, .ref bn, .ref bb, .ref bu, .ref bh])), (ba, .inl (cyI, 32, .inl Af)), (bh, .inl (cyI, 15, .inl u_26.1)), (bt, .inl (cyI, 5, .inl tf)), (bf, .inl (cyI, 225, .inl ff)), (bw, .inl (cyI, 160, .inl u_26.2.1)), (bs, .inl (cyI, 5, .inl u_26.2.2.1)), (bm, .inl (cyI, 5, .inl u_26.2.2.2.1)), (bn, .inl (cyI, 5, .inl u_26.2.2.2.2.1)), (bb, .inl (cyI, 5, .inl u_26.2.2.2.2.2.1)), (bu, .inl (cyJ, 5, .inr (.inl u_26.2.2.2.2.2.2)))] H := hP
      refine lv_iconst (v := -1) hx hb dX6_ranked_29 (by decide) ?_
      refine lv_istore_n (lv' := [(3, .int (-1)), (0, .ref bx), (1, .int (nI d)), (2, .int w9)]) hx hb dX6_ranked_30 rfl hl (by decide) rfl (fun ls hl => ?_)
      refine lv_iconst (v := 0) hx hb dX6_ranked_31 (by decide) ?_
      refine lv_istore (lv' := [(4, .int 0), (3, .int (-1)), (0, .ref bx), (1, .int (nI d)), (2, .int w9)]) hx hb dX6_ranked_32 hl (by decide) rfl (fun ls hl => ?_)
      have lo : ∀ (n9 : Nat) (i : Nat) (fv : Int32), i ≤ 15 → fv = zRF (zWB k d own oth mm) w9 i → 15 - i < n9 → ∀ (H : Heap) (locs : List Loc), va_P (dC, dI) vwCl [(bx, .inr (3, [.int 0, .int (nI k), .int (nI sd), .int tI, .int wI, .int cI, .ref bl, .ref ba, .ref bt, .ref bg, .ref be, .ref bf, .ref bw, .ref bs, .ref bm, .ref bn, .ref bb, .ref bu, .ref bh])), (ba, .inl (cyI, 32, .inl Af)), (bh, .inl (cyI, 15, .inl u_26.1)), (bt, .inl (cyI, 5, .inl tf)), (bf, .inl (cyI, 225, .inl ff)), (bw, .inl (cyI, 160, .inl u_26.2.1)), (bs, .inl (cyI, 5, .inl u_26.2.2.1)), (bm, .inl (cyI, 5, .inl u_26.2.2.2.1)), (bn, .inl (cyI, 5, .inl u_26.2.2.2.2.1)), (bb, .inl (cyI, 5, .inl u_26.2.2.2.2.2.1)), (bu, .inl (cyJ, 5, .inr (.inl u_26.2.2.2.2.2.2)))] H → va_S (zA [bx, ba, bh, bt, bf, bw, bs, bm, bn, bb, bu]) s.heap H locs → ∀ ls : Array Slot, lv_has ls 8 [(4, .int (nI i)), (3, .int fv), (0, .ref bx), (1, .int (nI d)), (2, .int w9)] → W p l e (headSpec wsX6_ranked ({ frames := 6, cells := 0, slots := 0, locals := 144 })).room s m ([.ref bx, .int (nI d), .int w9] : List Value).toArray below meth c H locs 0 0 Q (F0 m 34 ls []) := by
        intro n9
        induction n9 with
        | zero => intro i fv hi2 hfv hm9; exact absurd hm9 (Nat.not_lt_zero _)
        | succ n9 ih34 =>
          intro i fv hi2 hfv hm9 H locs hP hS ls hl
          refine lv_iload hx hb dX6_ranked_34 (lv_at hl 0 rfl) ?_
          refine lv_bipush (v := 15) hx hb dX6_ranked_36 (by decide) ?_
          refine lv_icmp_ge (tgt := 164) hx hb dX6_ranked_38 (by decide) (fun c_38 => ?_) (fun c_38 => ?_)
          · skip
            have c_38 : 15 ≤ i := (nI_leI (a := 15) (b := i) (by omega) (by omega)).mp c_38
            refine lv_iload_n hx hb dX6_ranked_164 rfl (lv_at hl 1 rfl) ?_
            subst hQe
            exact W.iret (v := fv) hx hb hr (fun t ht hW => ⟨⟨_, (0, u_26.1, (u_26.2.1, u_26.2.2.1, u_26.2.2.2.1, u_26.2.2.2.2.1, u_26.2.2.2.2.2.1, u_26.2.2.2.2.2.2)), rfl, Or.inl ⟨rfl, d, hd, rfl, c_15, (by rw [hfv, show i = 15 by omega, zRF_15])⟩, zh ht hP⟩, hS.F ht⟩) hS.2.2 dX6_ranked_165
          · skip
            have c_38 : ¬ 15 ≤ i := fun h9 => c_38 ((nI_leI (a := 15) (b := i) (by omega) (by omega)).mpr h9)
            refine lv_iconst (v := 0) hx hb dX6_ranked_41 (by decide) ?_
            refine lv_istore (lv' := [(5, .int 0), (4, .int (nI i)), (3, .int fv), (0, .ref bx), (1, .int (nI d)), (2, .int w9)]) hx hb dX6_ranked_42 hl (by decide) rfl (fun ls hl => ?_)
            refine lv_iconst (v := 0) hx hb dX6_ranked_44 (by decide) ?_
            refine lv_istore (lv' := [(6, .int 0), (5, .int 0), (4, .int (nI i)), (3, .int fv), (0, .ref bx), (1, .int (nI d)), (2, .int w9)]) hx hb dX6_ranked_45 hl (by decide) rfl (fun ls hl => ?_)
            have li : ∀ (n9 : Nat) (j : Nat) (av : Nat), j ≤ 15 → av = zCA (zWB k d own oth mm) i j → 15 - j < n9 → ∀ (H : Heap) (locs : List Loc), va_P (dC, dI) vwCl [(bx, .inr (3, [.int 0, .int (nI k), .int (nI sd), .int tI, .int wI, .int cI, .ref bl, .ref ba, .ref bt, .ref bg, .ref be, .ref bf, .ref bw, .ref bs, .ref bm, .ref bn, .ref bb, .ref bu, .ref bh])), (ba, .inl (cyI, 32, .inl Af)), (bh, .inl (cyI, 15, .inl u_26.1)), (bt, .inl (cyI, 5, .inl tf)), (bf, .inl (cyI, 225, .inl ff)), (bw, .inl (cyI, 160, .inl u_26.2.1)), (bs, .inl (cyI, 5, .inl u_26.2.2.1)), (bm, .inl (cyI, 5, .inl u_26.2.2.2.1)), (bn, .inl (cyI, 5, .inl u_26.2.2.2.2.1)), (bb, .inl (cyI, 5, .inl u_26.2.2.2.2.2.1)), (bu, .inl (cyJ, 5, .inr (.inl u_26.2.2.2.2.2.2)))] H → va_S (zA [bx, ba, bh, bt, bf, bw, bs, bm, bn, bb, bu]) s.heap H locs → ∀ ls : Array Slot, lv_has ls 8 [(6, .int (nI j)), (5, .int (nI av)), (4, .int (nI i)), (3, .int fv), (0, .ref bx), (1, .int (nI d)), (2, .int w9)] → W p l e (headSpec wsX6_ranked ({ frames := 6, cells := 0, slots := 0, locals := 144 })).room s m ([.ref bx, .int (nI d), .int w9] : List Value).toArray below meth c H locs 0 0 Q (F0 m 47 ls []) := by
              intro n9
              induction n9 with
              | zero => intro j av hj2 hav hm9; exact absurd hm9 (Nat.not_lt_zero _)
              | succ n9 ih47 =>
                intro j av hj2 hav hm9 H locs hP hS ls hl
                refine lv_iload hx hb dX6_ranked_47 (lv_at hl 0 rfl) ?_
                refine lv_bipush (v := 15) hx hb dX6_ranked_49 (by decide) ?_
                refine lv_icmp_ge (tgt := 134) hx hb dX6_ranked_51 (by decide) (fun c_51 => ?_) (fun c_51 => ?_)
                · skip
                  have c_51 : 15 ≤ j := (nI_leI (a := 15) (b := j) (by omega) (by omega)).mp c_51
                  refine lv_aload_n hx hb dX6_ranked_134 rfl (lv_at hl 4 rfl) ?_
                  refine va_get (D := (dC, dI)) (ci := 3) (v := .ref bh) (C := RX6) (T := TX6) (N := 19) hx hb hts hinX6 hown hK hP 0 rfl rfl 18 (by decide) (hts (.fieldLink RX6 54 "RoyalUrTableModel" "behind" "[I") (List.mem_of_getElem? (i := 2) rfl)) (fun _ h9 => h9) rfl dX6_ranked_135 ?_
                  refine lv_iload hx hb dX6_ranked_138 (lv_at hl 2 rfl) ?_
                  refine zi_iald hx hb hK hP 2 0 rfl rfl (j := i) rfl (by omega) (by decide) dX6_ranked_140 ?_
                  refine zz_i (y := zWB k d own oth mm i) (hw_26 i (by omega)) ?_
                  refine lv_iconst (v := -1) hx hb dX6_ranked_141 (by decide) ?_
                  refine lv_icmp_eq (tgt := 156) hx hb dX6_ranked_142 (by decide) (fun c_142 => ?_) (fun c_142 => ?_)
                  · skip
                    refine lv_iload_n hx hb dX6_ranked_156 rfl (lv_at hl 3 rfl) ?_
                    refine lv_istore_n (lv' := [(3, .int fv), (6, .int (nI j)), (5, .int (nI av)), (4, .int (nI i)), (0, .ref bx), (1, .int (nI d)), (2, .int w9)]) hx hb dX6_ranked_157 rfl hl (by decide) rfl (fun ls hl => ?_)
                    refine lv_iinc (v := nI (i + 1)) (lv' := [(4, .int (nI (i + 1))), (3, .int fv), (6, .int (nI j)), (5, .int (nI av)), (0, .ref bx), (1, .int (nI d)), (2, .int w9)]) hx hb dX6_ranked_158 hl (k := 3) rfl (nI_1 i) (by decide) rfl (fun ls hl => ?_)
                    refine lv_goto (tgt := 34) hx hb dX6_ranked_161 (by decide) ?_
                    exact ih34 (i + 1) _ (by omega) (by rw [zRF_s, if_neg (fun h => h.1 c_142)]; exact hfv) (by omega) _ _ hP hS _ (lv_sub hl [0, 1, 4, 5, 6] rfl)
                  · skip
                    refine lv_iload hx hb dX6_ranked_145 (lv_at hl 1 rfl) ?_
                    refine lv_iload_n hx hb dX6_ranked_147 rfl (lv_at hl 6 rfl) ?_
                    refine lv_icmp_ne (tgt := 156) hx hb dX6_ranked_148 (by decide) (fun c_148 => ?_) (fun c_148 => ?_)
                    · skip
                      refine lv_iload_n hx hb dX6_ranked_156 rfl (lv_at hl 3 rfl) ?_
                      refine lv_istore_n (lv' := [(3, .int fv), (6, .int (nI j)), (5, .int (nI av)), (4, .int (nI i)), (0, .ref bx), (1, .int (nI d)), (2, .int w9)]) hx hb dX6_ranked_157 rfl hl (by decide) rfl (fun ls hl => ?_)
                      refine lv_iinc (v := nI (i + 1)) (lv' := [(4, .int (nI (i + 1))), (3, .int fv), (6, .int (nI j)), (5, .int (nI av)), (0, .ref bx), (1, .int (nI d)), (2, .int w9)]) hx hb dX6_ranked_158 hl (k := 3) rfl (nI_1 i) (by decide) rfl (fun ls hl => ?_)
                      refine lv_goto (tgt := 34) hx hb dX6_ranked_161 (by decide) ?_
                      exact ih34 (i + 1) _ (by omega) (by rw [zRF_s, if_neg (fun h => c_148 (by rw [hav, show j = 15 by omega, zCA_eq c_142]; exact h.2))]; exact hfv) (by omega) _ _ hP hS _ (lv_sub hl [0, 1, 4, 5, 6] rfl)
                    · skip
                      refine lv_iload hx hb dX6_ranked_151 (lv_at hl 2 rfl) ?_
                      refine lv_goto (tgt := 157) hx hb dX6_ranked_153 (by decide) ?_
                      refine lv_istore_n (lv' := [(3, .int (nI i)), (6, .int (nI j)), (5, .int (nI av)), (4, .int (nI i)), (0, .ref bx), (1, .int (nI d)), (2, .int w9)]) hx hb dX6_ranked_157 rfl hl (by decide) rfl (fun ls hl => ?_)
                      refine lv_iinc (v := nI (i + 1)) (lv' := [(4, .int (nI (i + 1))), (3, .int (nI i)), (6, .int (nI j)), (5, .int (nI av)), (0, .ref bx), (1, .int (nI d)), (2, .int w9)]) hx hb dX6_ranked_158 hl (k := 3) rfl (nI_1 i) (by decide) rfl (fun ls hl => ?_)
                      refine lv_goto (tgt := 34) hx hb dX6_ranked_161 (by decide) ?_
                      exact ih34 (i + 1) _ (by omega) (by rw [zRF_s, if_pos ⟨c_142, by rw [← zCA_eq c_142, ← c_148, hav, show j = 15 by omega]⟩]) (by omega) _ _ hP hS _ (lv_sub hl [0, 1, 4, 5, 6] rfl)
                · skip
                  have c_51 : ¬ 15 ≤ j := fun h9 => c_51 ((nI_leI (a := 15) (b := j) (by omega) (by omega)).mpr h9)
                  refine lv_aload_n hx hb dX6_ranked_54 rfl (lv_at hl 4 rfl) ?_
                  refine va_get (D := (dC, dI)) (ci := 3) (v := .ref bh) (C := RX6) (T := TX6) (N := 19) hx hb hts hinX6 hown hK hP 0 rfl rfl 18 (by decide) (hts (.fieldLink RX6 54 "RoyalUrTableModel" "behind" "[I") (List.mem_of_getElem? (i := 2) rfl)) (fun _ h9 => h9) rfl dX6_ranked_55 ?_
                  refine lv_iload hx hb dX6_ranked_58 (lv_at hl 0 rfl) ?_
                  refine zi_iald hx hb hK hP 2 0 rfl rfl (j := j) rfl (by omega) (by decide) dX6_ranked_60 ?_
                  refine zz_i (y := zWB k d own oth mm j) (hw_26 j (by omega)) ?_
                  refine lv_aload_n hx hb dX6_ranked_61 rfl (lv_at hl 4 rfl) ?_
                  refine va_get (D := (dC, dI)) (ci := 3) (v := .ref bh) (C := RX6) (T := TX6) (N := 19) hx hb hts hinX6 hown hK hP 0 rfl rfl 18 (by decide) (hts (.fieldLink RX6 54 "RoyalUrTableModel" "behind" "[I") (List.mem_of_getElem? (i := 2) rfl)) (fun _ h9 => h9) rfl dX6_ranked_62 ?_
                  refine lv_iload hx hb dX6_ranked_65 (lv_at hl 2 rfl) ?_
                  refine zi_iald hx hb hK hP 2 0 rfl rfl (j := i) rfl (by omega) (by decide) dX6_ranked_67 ?_
                  refine zz_i (y := zWB k d own oth mm i) (hw_26 i (by omega)) ?_
                  refine lv_icmp_gt (tgt := 95) hx hb dX6_ranked_68 (by decide) (fun c_68 => ?_) (fun c_68 => ?_)
                  · skip
                    refine lv_iconst (v := 1) hx hb dX6_ranked_95 (by decide) ?_
                    refine lv_goto (tgt := 100) hx hb dX6_ranked_96 (by decide) ?_
                    refine lv_istore (lv' := [(7, .int 1), (6, .int (nI j)), (5, .int (nI av)), (4, .int (nI i)), (3, .int fv), (0, .ref bx), (1, .int (nI d)), (2, .int w9)]) hx hb dX6_ranked_100 hl (by decide) rfl (fun ls hl => ?_)
                    refine lv_iload hx hb dX6_ranked_102 (lv_at hl 2 rfl) ?_
                    refine lv_aload_n hx hb dX6_ranked_104 rfl (lv_at hl 5 rfl) ?_
                    refine va_get (D := (dC, dI)) (ci := 3) (v := .ref bh) (C := RX6) (T := TX6) (N := 19) hx hb hts hinX6 hown hK hP 0 rfl rfl 18 (by decide) (hts (.fieldLink RX6 54 "RoyalUrTableModel" "behind" "[I") (List.mem_of_getElem? (i := 2) rfl)) (fun _ h9 => h9) rfl dX6_ranked_105 ?_
                    refine lv_iload hx hb dX6_ranked_108 (lv_at hl 1 rfl) ?_
                    refine zi_iald hx hb hK hP 2 0 rfl rfl (j := j) rfl (by omega) (by decide) dX6_ranked_110 ?_
                    refine zz_i (y := zWB k d own oth mm j) (hw_26 j (by omega)) ?_
                    refine lv_iconst (v := -1) hx hb dX6_ranked_111 (by decide) ?_
                    refine lv_icmp_eq (tgt := 124) hx hb dX6_ranked_112 (by decide) (fun c_112 => ?_) (fun c_112 => ?_)
                    · skip
                      refine lv_iconst (v := 0) hx hb dX6_ranked_124 (by decide) ?_
                      refine lv_iadd hx hb dX6_ranked_125 ?_
                      refine zz_i (y := nI (av + 0)) (nI_add av 0) ?_
                      refine lv_istore (lv' := [(5, .int (nI (av + 0))), (7, .int 1), (6, .int (nI j)), (4, .int (nI i)), (3, .int fv), (0, .ref bx), (1, .int (nI d)), (2, .int w9)]) hx hb dX6_ranked_126 hl (by decide) rfl (fun ls hl => ?_)
                      refine lv_iinc (v := nI (j + 1)) (lv' := [(6, .int (nI (j + 1))), (5, .int (nI (av + 0))), (7, .int 1), (4, .int (nI i)), (3, .int fv), (0, .ref bx), (1, .int (nI d)), (2, .int w9)]) hx hb dX6_ranked_128 hl (k := 2) rfl (nI_1 j) (by decide) rfl (fun ls hl => ?_)
                      refine lv_goto (tgt := 47) hx hb dX6_ranked_131 (by decide) ?_
                      exact ih47 (j + 1) _ (by omega) (by rw [zCA_s, if_neg (fun h => h.1 c_112)]; exact congrArg (· + 0) hav) (by omega) _ _ hP hS _ (lv_sub hl [0, 1, 3, 4, 5, 6, 7] rfl)
                    · skip
                      refine lv_iload hx hb dX6_ranked_115 (lv_at hl 0 rfl) ?_
                      refine lv_if_eq (tgt := 124) hx hb dX6_ranked_117 (by decide) (fun c9 => absurd c9 (by decide)) (fun _ => ?_)
                      refine lv_iconst (v := 1) hx hb dX6_ranked_120 (by decide) ?_
                      refine lv_goto (tgt := 125) hx hb dX6_ranked_121 (by decide) ?_
                      refine lv_iadd hx hb dX6_ranked_125 ?_
                      refine zz_i (y := nI (av + 1)) (nI_add av 1) ?_
                      refine lv_istore (lv' := [(5, .int (nI (av + 1))), (7, .int 1), (6, .int (nI j)), (4, .int (nI i)), (3, .int fv), (0, .ref bx), (1, .int (nI d)), (2, .int w9)]) hx hb dX6_ranked_126 hl (by decide) rfl (fun ls hl => ?_)
                      refine lv_iinc (v := nI (j + 1)) (lv' := [(6, .int (nI (j + 1))), (5, .int (nI (av + 1))), (7, .int 1), (4, .int (nI i)), (3, .int fv), (0, .ref bx), (1, .int (nI d)), (2, .int w9)]) hx hb dX6_ranked_128 hl (k := 2) rfl (nI_1 j) (by decide) rfl (fun ls hl => ?_)
                      refine lv_goto (tgt := 47) hx hb dX6_ranked_131 (by decide) ?_
                      exact ih47 (j + 1) _ (by omega) (by rw [zCA_s, if_pos ⟨c_112, Or.inl c_68⟩]; exact congrArg (· + 1) hav) (by omega) _ _ hP hS _ (lv_sub hl [0, 1, 3, 4, 5, 6, 7] rfl)
                  · skip
                    refine lv_aload_n hx hb dX6_ranked_71 rfl (lv_at hl 4 rfl) ?_
                    refine va_get (D := (dC, dI)) (ci := 3) (v := .ref bh) (C := RX6) (T := TX6) (N := 19) hx hb hts hinX6 hown hK hP 0 rfl rfl 18 (by decide) (hts (.fieldLink RX6 54 "RoyalUrTableModel" "behind" "[I") (List.mem_of_getElem? (i := 2) rfl)) (fun _ h9 => h9) rfl dX6_ranked_72 ?_
                    refine lv_iload hx hb dX6_ranked_75 (lv_at hl 0 rfl) ?_
                    refine zi_iald hx hb hK hP 2 0 rfl rfl (j := j) rfl (by omega) (by decide) dX6_ranked_77 ?_
                    refine zz_i (y := zWB k d own oth mm j) (hw_26 j (by omega)) ?_
                    refine lv_aload_n hx hb dX6_ranked_78 rfl (lv_at hl 4 rfl) ?_
                    refine va_get (D := (dC, dI)) (ci := 3) (v := .ref bh) (C := RX6) (T := TX6) (N := 19) hx hb hts hinX6 hown hK hP 0 rfl rfl 18 (by decide) (hts (.fieldLink RX6 54 "RoyalUrTableModel" "behind" "[I") (List.mem_of_getElem? (i := 2) rfl)) (fun _ h9 => h9) rfl dX6_ranked_79 ?_
                    refine lv_iload hx hb dX6_ranked_82 (lv_at hl 2 rfl) ?_
                    refine zi_iald hx hb hK hP 2 0 rfl rfl (j := i) rfl (by omega) (by decide) dX6_ranked_84 ?_
                    refine zz_i (y := zWB k d own oth mm i) (hw_26 i (by omega)) ?_
                    refine lv_icmp_ne (tgt := 99) hx hb dX6_ranked_85 (by decide) (fun c_85 => ?_) (fun c_85 => ?_)
                    · skip
                      refine lv_iconst (v := 0) hx hb dX6_ranked_99 (by decide) ?_
                      refine lv_istore (lv' := [(7, .int 0), (6, .int (nI j)), (5, .int (nI av)), (4, .int (nI i)), (3, .int fv), (0, .ref bx), (1, .int (nI d)), (2, .int w9)]) hx hb dX6_ranked_100 hl (by decide) rfl (fun ls hl => ?_)
                      refine lv_iload hx hb dX6_ranked_102 (lv_at hl 2 rfl) ?_
                      refine lv_aload_n hx hb dX6_ranked_104 rfl (lv_at hl 5 rfl) ?_
                      refine va_get (D := (dC, dI)) (ci := 3) (v := .ref bh) (C := RX6) (T := TX6) (N := 19) hx hb hts hinX6 hown hK hP 0 rfl rfl 18 (by decide) (hts (.fieldLink RX6 54 "RoyalUrTableModel" "behind" "[I") (List.mem_of_getElem? (i := 2) rfl)) (fun _ h9 => h9) rfl dX6_ranked_105 ?_
                      refine lv_iload hx hb dX6_ranked_108 (lv_at hl 1 rfl) ?_
                      refine zi_iald hx hb hK hP 2 0 rfl rfl (j := j) rfl (by omega) (by decide) dX6_ranked_110 ?_
                      refine zz_i (y := zWB k d own oth mm j) (hw_26 j (by omega)) ?_
                      refine lv_iconst (v := -1) hx hb dX6_ranked_111 (by decide) ?_
                      refine lv_icmp_eq (tgt := 124) hx hb dX6_ranked_112 (by decide) (fun c_112 => ?_) (fun c_112 => ?_)
                      · skip
                        refine lv_iconst (v := 0) hx hb dX6_ranked_124 (by decide) ?_
                        refine lv_iadd hx hb dX6_ranked_125 ?_
                        refine zz_i (y := nI (av + 0)) (nI_add av 0) ?_
                        refine lv_istore (lv' := [(5, .int (nI (av + 0))), (7, .int 0), (6, .int (nI j)), (4, .int (nI i)), (3, .int fv), (0, .ref bx), (1, .int (nI d)), (2, .int w9)]) hx hb dX6_ranked_126 hl (by decide) rfl (fun ls hl => ?_)
                        refine lv_iinc (v := nI (j + 1)) (lv' := [(6, .int (nI (j + 1))), (5, .int (nI (av + 0))), (7, .int 0), (4, .int (nI i)), (3, .int fv), (0, .ref bx), (1, .int (nI d)), (2, .int w9)]) hx hb dX6_ranked_128 hl (k := 2) rfl (nI_1 j) (by decide) rfl (fun ls hl => ?_)
                        refine lv_goto (tgt := 47) hx hb dX6_ranked_131 (by decide) ?_
                        exact ih47 (j + 1) _ (by omega) (by rw [zCA_s, if_neg (fun h => h.1 c_112)]; exact congrArg (· + 0) hav) (by omega) _ _ hP hS _ (lv_sub hl [0, 1, 3, 4, 5, 6, 7] rfl)
                      · skip
                        refine lv_iload hx hb dX6_ranked_115 (lv_at hl 0 rfl) ?_
                        refine lv_if_eq (tgt := 124) hx hb dX6_ranked_117 (by decide) (fun _ => ?_) (fun c9 => absurd c9 (by decide))
                        refine lv_iconst (v := 0) hx hb dX6_ranked_124 (by decide) ?_
                        refine lv_iadd hx hb dX6_ranked_125 ?_
                        refine zz_i (y := nI (av + 0)) (nI_add av 0) ?_
                        refine lv_istore (lv' := [(5, .int (nI (av + 0))), (7, .int 0), (6, .int (nI j)), (4, .int (nI i)), (3, .int fv), (0, .ref bx), (1, .int (nI d)), (2, .int w9)]) hx hb dX6_ranked_126 hl (by decide) rfl (fun ls hl => ?_)
                        refine lv_iinc (v := nI (j + 1)) (lv' := [(6, .int (nI (j + 1))), (5, .int (nI (av + 0))), (7, .int 0), (4, .int (nI i)), (3, .int fv), (0, .ref bx), (1, .int (nI d)), (2, .int w9)]) hx hb dX6_ranked_128 hl (k := 2) rfl (nI_1 j) (by decide) rfl (fun ls hl => ?_)
                        refine lv_goto (tgt := 47) hx hb dX6_ranked_131 (by decide) ?_
                        exact ih47 (j + 1) _ (by omega) (by rw [zCA_s, if_neg (fun h => by rcases h.2 with h2 | h2; exact c_68 h2; exact c_85 h2.1)]; exact congrArg (· + 0) hav) (by omega) _ _ hP hS _ (lv_sub hl [0, 1, 3, 4, 5, 6, 7] rfl)
                    · skip
                      refine lv_iload hx hb dX6_ranked_88 (lv_at hl 0 rfl) ?_
                      refine lv_iload hx hb dX6_ranked_90 (lv_at hl 2 rfl) ?_
                      refine lv_icmp_ge (tgt := 99) hx hb dX6_ranked_92 (by decide) (fun c_92 => ?_) (fun c_92 => ?_)
                      · skip
                        have c_92 : i ≤ j := (nI_leI (a := i) (b := j) (by omega) (by omega)).mp c_92
                        refine lv_iconst (v := 0) hx hb dX6_ranked_99 (by decide) ?_
                        refine lv_istore (lv' := [(7, .int 0), (6, .int (nI j)), (5, .int (nI av)), (4, .int (nI i)), (3, .int fv), (0, .ref bx), (1, .int (nI d)), (2, .int w9)]) hx hb dX6_ranked_100 hl (by decide) rfl (fun ls hl => ?_)
                        refine lv_iload hx hb dX6_ranked_102 (lv_at hl 2 rfl) ?_
                        refine lv_aload_n hx hb dX6_ranked_104 rfl (lv_at hl 5 rfl) ?_
                        refine va_get (D := (dC, dI)) (ci := 3) (v := .ref bh) (C := RX6) (T := TX6) (N := 19) hx hb hts hinX6 hown hK hP 0 rfl rfl 18 (by decide) (hts (.fieldLink RX6 54 "RoyalUrTableModel" "behind" "[I") (List.mem_of_getElem? (i := 2) rfl)) (fun _ h9 => h9) rfl dX6_ranked_105 ?_
                        refine lv_iload hx hb dX6_ranked_108 (lv_at hl 1 rfl) ?_
                        refine zi_iald hx hb hK hP 2 0 rfl rfl (j := j) rfl (by omega) (by decide) dX6_ranked_110 ?_
                        refine zz_i (y := zWB k d own oth mm j) (hw_26 j (by omega)) ?_
                        refine lv_iconst (v := -1) hx hb dX6_ranked_111 (by decide) ?_
                        refine lv_icmp_eq (tgt := 124) hx hb dX6_ranked_112 (by decide) (fun c_112 => ?_) (fun c_112 => ?_)
                        · skip
                          refine lv_iconst (v := 0) hx hb dX6_ranked_124 (by decide) ?_
                          refine lv_iadd hx hb dX6_ranked_125 ?_
                          refine zz_i (y := nI (av + 0)) (nI_add av 0) ?_
                          refine lv_istore (lv' := [(5, .int (nI (av + 0))), (7, .int 0), (6, .int (nI j)), (4, .int (nI i)), (3, .int fv), (0, .ref bx), (1, .int (nI d)), (2, .int w9)]) hx hb dX6_ranked_126 hl (by decide) rfl (fun ls hl => ?_)
                          refine lv_iinc (v := nI (j + 1)) (lv' := [(6, .int (nI (j + 1))), (5, .int (nI (av + 0))), (7, .int 0), (4, .int (nI i)), (3, .int fv), (0, .ref bx), (1, .int (nI d)), (2, .int w9)]) hx hb dX6_ranked_128 hl (k := 2) rfl (nI_1 j) (by decide) rfl (fun ls hl => ?_)
                          refine lv_goto (tgt := 47) hx hb dX6_ranked_131 (by decide) ?_
                          exact ih47 (j + 1) _ (by omega) (by rw [zCA_s, if_neg (fun h => h.1 c_112)]; exact congrArg (· + 0) hav) (by omega) _ _ hP hS _ (lv_sub hl [0, 1, 3, 4, 5, 6, 7] rfl)
                        · skip
                          refine lv_iload hx hb dX6_ranked_115 (lv_at hl 0 rfl) ?_
                          refine lv_if_eq (tgt := 124) hx hb dX6_ranked_117 (by decide) (fun _ => ?_) (fun c9 => absurd c9 (by decide))
                          refine lv_iconst (v := 0) hx hb dX6_ranked_124 (by decide) ?_
                          refine lv_iadd hx hb dX6_ranked_125 ?_
                          refine zz_i (y := nI (av + 0)) (nI_add av 0) ?_
                          refine lv_istore (lv' := [(5, .int (nI (av + 0))), (7, .int 0), (6, .int (nI j)), (4, .int (nI i)), (3, .int fv), (0, .ref bx), (1, .int (nI d)), (2, .int w9)]) hx hb dX6_ranked_126 hl (by decide) rfl (fun ls hl => ?_)
                          refine lv_iinc (v := nI (j + 1)) (lv' := [(6, .int (nI (j + 1))), (5, .int (nI (av + 0))), (7, .int 0), (4, .int (nI i)), (3, .int fv), (0, .ref bx), (1, .int (nI d)), (2, .int w9)]) hx hb dX6_ranked_128 hl (k := 2) rfl (nI_1 j) (by decide) rfl (fun ls hl => ?_)
                          refine lv_goto (tgt := 47) hx hb dX6_ranked_131 (by decide) ?_
                          exact ih47 (j + 1) _ (by omega) (by rw [zCA_s, if_neg (fun h => by rcases h.2 with h2 | h2; exact c_68 h2; exact absurd h2.2 (by omega))]; exact congrArg (· + 0) hav) (by omega) _ _ hP hS _ (lv_sub hl [0, 1, 3, 4, 5, 6, 7] rfl)
                      · skip
                        have c_92 : ¬ i ≤ j := fun h9 => c_92 ((nI_leI (a := i) (b := j) (by omega) (by omega)).mpr h9)
                        refine lv_iconst (v := 1) hx hb dX6_ranked_95 (by decide) ?_
                        refine lv_goto (tgt := 100) hx hb dX6_ranked_96 (by decide) ?_
                        refine lv_istore (lv' := [(7, .int 1), (6, .int (nI j)), (5, .int (nI av)), (4, .int (nI i)), (3, .int fv), (0, .ref bx), (1, .int (nI d)), (2, .int w9)]) hx hb dX6_ranked_100 hl (by decide) rfl (fun ls hl => ?_)
                        refine lv_iload hx hb dX6_ranked_102 (lv_at hl 2 rfl) ?_
                        refine lv_aload_n hx hb dX6_ranked_104 rfl (lv_at hl 5 rfl) ?_
                        refine va_get (D := (dC, dI)) (ci := 3) (v := .ref bh) (C := RX6) (T := TX6) (N := 19) hx hb hts hinX6 hown hK hP 0 rfl rfl 18 (by decide) (hts (.fieldLink RX6 54 "RoyalUrTableModel" "behind" "[I") (List.mem_of_getElem? (i := 2) rfl)) (fun _ h9 => h9) rfl dX6_ranked_105 ?_
                        refine lv_iload hx hb dX6_ranked_108 (lv_at hl 1 rfl) ?_
                        refine zi_iald hx hb hK hP 2 0 rfl rfl (j := j) rfl (by omega) (by decide) dX6_ranked_110 ?_
                        refine zz_i (y := zWB k d own oth mm j) (hw_26 j (by omega)) ?_
                        refine lv_iconst (v := -1) hx hb dX6_ranked_111 (by decide) ?_
                        refine lv_icmp_eq (tgt := 124) hx hb dX6_ranked_112 (by decide) (fun c_112 => ?_) (fun c_112 => ?_)
                        · skip
                          refine lv_iconst (v := 0) hx hb dX6_ranked_124 (by decide) ?_
                          refine lv_iadd hx hb dX6_ranked_125 ?_
                          refine zz_i (y := nI (av + 0)) (nI_add av 0) ?_
                          refine lv_istore (lv' := [(5, .int (nI (av + 0))), (7, .int 1), (6, .int (nI j)), (4, .int (nI i)), (3, .int fv), (0, .ref bx), (1, .int (nI d)), (2, .int w9)]) hx hb dX6_ranked_126 hl (by decide) rfl (fun ls hl => ?_)
                          refine lv_iinc (v := nI (j + 1)) (lv' := [(6, .int (nI (j + 1))), (5, .int (nI (av + 0))), (7, .int 1), (4, .int (nI i)), (3, .int fv), (0, .ref bx), (1, .int (nI d)), (2, .int w9)]) hx hb dX6_ranked_128 hl (k := 2) rfl (nI_1 j) (by decide) rfl (fun ls hl => ?_)
                          refine lv_goto (tgt := 47) hx hb dX6_ranked_131 (by decide) ?_
                          exact ih47 (j + 1) _ (by omega) (by rw [zCA_s, if_neg (fun h => h.1 c_112)]; exact congrArg (· + 0) hav) (by omega) _ _ hP hS _ (lv_sub hl [0, 1, 3, 4, 5, 6, 7] rfl)
                        · skip
                          refine lv_iload hx hb dX6_ranked_115 (lv_at hl 0 rfl) ?_
                          refine lv_if_eq (tgt := 124) hx hb dX6_ranked_117 (by decide) (fun c9 => absurd c9 (by decide)) (fun _ => ?_)
                          refine lv_iconst (v := 1) hx hb dX6_ranked_120 (by decide) ?_
                          refine lv_goto (tgt := 125) hx hb dX6_ranked_121 (by decide) ?_
                          refine lv_iadd hx hb dX6_ranked_125 ?_
                          refine zz_i (y := nI (av + 1)) (nI_add av 1) ?_
                          refine lv_istore (lv' := [(5, .int (nI (av + 1))), (7, .int 1), (6, .int (nI j)), (4, .int (nI i)), (3, .int fv), (0, .ref bx), (1, .int (nI d)), (2, .int w9)]) hx hb dX6_ranked_126 hl (by decide) rfl (fun ls hl => ?_)
                          refine lv_iinc (v := nI (j + 1)) (lv' := [(6, .int (nI (j + 1))), (5, .int (nI (av + 1))), (7, .int 1), (4, .int (nI i)), (3, .int fv), (0, .ref bx), (1, .int (nI d)), (2, .int w9)]) hx hb dX6_ranked_128 hl (k := 2) rfl (nI_1 j) (by decide) rfl (fun ls hl => ?_)
                          refine lv_goto (tgt := 47) hx hb dX6_ranked_131 (by decide) ?_
                          exact ih47 (j + 1) _ (by omega) (by rw [zCA_s, if_pos ⟨c_112, Or.inr ⟨c_85, by omega⟩⟩]; exact congrArg (· + 1) hav) (by omega) _ _ hP hS _ (lv_sub hl [0, 1, 3, 4, 5, 6, 7] rfl)
            exact li 16 0 0 (by omega) rfl (by omega) _ _ hP hS _ (lv_sub hl [0, 1, 2, 3, 4, 5, 6] rfl)
      exact lo 16 0 (-1) (by omega) rfl (by omega) _ _ hP hS _ (lv_sub hl [0, 1, 2, 3, 4] rfl)
    · skip
      refine lv_aload_n hx hb dX6_ranked_18 rfl (lv_at hl 0 rfl) ?_
      refine lv_iconst (v := 1) hx hb dX6_ranked_19 (by decide) ?_
      refine zrw_i (w1 := fun _ : Unit => [(bx, .inr (3, [.int 1, .int (nI k), .int (nI sd), .int tI, .int wI, .int cI, .ref bl, .ref ba, .ref bt, .ref bg, .ref be, .ref bf, .ref bw, .ref bs, .ref bm, .ref bn, .ref bb, .ref bu, .ref bh]))]) (al := [bx]) (va_runV (As := [.int 1]) (rest := []) ⟨hx, hb, hml, hown, hts⟩ (c_X6_fails l dC dI cyI cyJ k bx bl ba bt bg be bf bw bs bm bn bb bu bh 0 (nI sd) tI wI cI 1 (z_nd hDD.1 [0] (by decide) rfl)) (cwV 1 hts gX6_ranked_X6_fails rfl rfl rfl (by decide +kernel) ⟨Nat.le_of_ble_eq_true rfl, Nat.le_of_ble_eq_true rfl⟩) (zPc_V (ci := 3) (q0 := 0) zB_T hP hK rfl rfl [0] rfl (fun _ _ _ => trivial)) rfl rfl hl.1 rfl (lv_room (Nat.le_of_ble_eq_true rfl)) dX6_ranked_20 ⟨Nat.zero_le _, Nat.zero_le _⟩) hP hDD hS [0] rfl (fun _ => rfl) (fun r_20 u_20 H locs hw_20 hP hS => ?_)
      have hP : va_P (dC, dI) vwCl [(bx, .inr (3, [.int 1, .int (nI k), .int (nI sd), .int tI, .int wI, .int cI, .ref bl, .ref ba, .ref bt, .ref bg, .ref be, .ref bf, .ref bw, .ref bs, .ref bm, .ref bn, .ref bb, .ref bu, .ref bh])), (ba, .inl (cyI, 32, .inl Af)), (bh, .inl (cyI, 15, .inl hf)), (bt, .inl (cyI, 5, .inl tf)), (bf, .inl (cyI, 225, .inl ff)), (bw, .inl (cyI, 160, .inl u0.1)), (bs, .inl (cyI, 5, .inl u0.2.1)), (bm, .inl (cyI, 5, .inl u0.2.2.1)), (bn, .inl (cyI, 5, .inl u0.2.2.2.1)), (bb, .inl (cyI, 5, .inl u0.2.2.2.2.1)), (bu, .inl (cyJ, 5, .inr (.inl u0.2.2.2.2.2)))] H := hP
      subst hQe
      exact W.iret (v := r_20) hx hb hr (fun t ht hW => ⟨⟨_, (1, hf, (u0.1, u0.2.1, u0.2.2.1, u0.2.2.2.1, u0.2.2.2.2.1, u0.2.2.2.2.2)), rfl, Or.inr ⟨rfl, fun h => c_15 h.2⟩, zh ht hP⟩, hS.F ht⟩) hS.2.2 dX6_ranked_23

set_option maxHeartbeats 4000000 in
set_option maxRecDepth 100000 in
theorem c_X6_ended (l : Launch) (dC : Nat → ClassId) (dI : Nat → Nat → Nat) (cyI cyJ : ClassId) (k : Nat) (bx bl ba bt bg be bf bw bs bm bn bb bu bh : Nat) (thr sI tI wI cI : Int32) (tf gf ef : Nat → Int32) (htf : ∀ j, j < 5 → tf j = nI (ztm j)) (v1 v2 v3 : Int32) (M : Nat) (hM60 : M ≤ 60) (hM : M < 2 ^ 31) (hnd : [bx, bt, bg, be].Nodup) : Met l yX6_ended wsX6_ended ({ frames := 4, cells := 0, slots := 0, locals := 93 }) (zPc [.ref bx, .int v1, .int v2, .int v3, .int (nI M)] (dC, dI) vwCl [(cyI, .int), (cyJ, .long)] [(bx, .inr (3, [.int thr, .int (nI k), .int sI, .int tI, .int wI, .int cI, .ref bl, .ref ba, .ref bt, .ref bg, .ref be, .ref bf, .ref bw, .ref bs, .ref bm, .ref bn, .ref bb, .ref bu, .ref bh])), (bt, .inl (cyI, 5, .inl tf)), (bg, .inl (cyI, 225, .inl gf)), (be, .inl (cyI, 225, .inl ef))] (fun _ => True)) (va_Qi (fun (r : Int32) (u : Int32 × (Nat → Int32) × (Nat → Int32)) => (u.1 = 0 ∧ ∃ a b rr : Nat, a ≤ 14 ∧ b ≤ 14 ∧ rr ≤ M ∧ v1 = nI a ∧ v2 = nI b ∧ v3 = nI rr ∧ ¬ (a = b ∧ zshr a = true) ∧ r = nI (zE rr a b)) ∨ (u.1 = 1 ∧ ¬ (zEnd v1 v2 ∧ (0 ≤ v3 ∧ v3 ≤ nI M)))) (fun (u : Int32 × (Nat → Int32) × (Nat → Int32)) t => va_P (dC, dI) vwCl ([(bx, .inr (3, [.int u.1, .int (nI k), .int sI, .int tI, .int wI, .int cI, .ref bl, .ref ba, .ref bt, .ref bg, .ref be, .ref bf, .ref bw, .ref bs, .ref bm, .ref bn, .ref bb, .ref bu, .ref bh])), (bt, .inl (cyI, 5, .inl tf)), (bg, .inl (cyI, 225, .inl u.2.1)), (be, .inl (cyI, 225, .inl u.2.2))]) t.heap) (zA [bx, bt, bg, be])) 0 0 (zA [bx, bt, bg, be]) := by
  refine Met.ofW (cc := cX6_ended) (maxL := 5) (ret := (some .int)) (by decide) rfl ?_
  intro p e s m args below meth c s₁ B hml hv
  obtain ⟨rfl, hP, hK, hX⟩ := hv
  have hx := B.exec
  have hb := B.bytes
  have hr := B.returns
  have hts := atoms_spec (ws := wsX6_ended) B.pre
  have hown : s.vm.findClass RX6 = some m.cls := findClass_of_methodNamed B.named
  have hlocks := B.notSynchronized
  have hinX6 : ∀ w ∈ wsX60, w ∈ wsX6_ended := by decide +kernel
  have hl := lv_entry ([.ref bx, .int v1, .int v2, .int v3, .int (nI M)]) (n := 5) (Nat.le_of_ble_eq_true rfl)
  rw [lg_entry_eq]
  generalize (lg_sl ([.ref bx, .int v1, .int v2, .int v3, .int (nI M)]) ++ List.replicate (5 - (lg_sl ([.ref bx, .int v1, .int v2, .int v3, .int (nI M)])).length) Slot.unset).toArray = ls at hl ⊢
  have hl : lv_has ls 5 [(0, .ref bx), (1, .int v1), (2, .int v2), (3, .int v3), (4, .int (nI M))] := hl
  have hS : va_S (zA [bx, bt, bg, be]) s.heap s.heap [] := va_S.rf
  have hDD : zD (zA [bx, bt, bg, be]) [bx, bt, bg, be] := ⟨hnd, fun _ h => h⟩
  refine lv_aload_n hx hb dX6_ended_0 rfl (lv_at hl 0 rfl) ?_
  refine lv_iload_n hx hb dX6_ended_1 rfl (lv_at hl 1 rfl) ?_
  refine lv_iconst (v := 0) hx hb dX6_ended_2 (by decide) ?_
  refine lv_bipush (v := 14) hx hb dX6_ended_3 (by decide) ?_
  refine zro_i (va_runS (As := [.int v1, .int 0, .int 14]) (rest := [.ref bx]) ⟨hx, hb, hml, hown, hts⟩ (c_X6_in l v1 0 14) (va_cwS 3 hts gX6_ended_X6_in rfl rfl rfl (by decide +kernel) ⟨Nat.le_of_ble_eq_true rfl, Nat.le_of_ble_eq_true rfl⟩) zPu rfl rfl hl.1 rfl (lv_room (Nat.le_of_ble_eq_true rfl)) dX6_ended_5 ⟨Nat.zero_le _, Nat.zero_le _⟩) hP hS (fun H locs hP hS => ?_)
  refine lv_if_eq (tgt := 47) hx hb dX6_ended_8 (by decide) (fun c_8 => ?_) (fun c_8 => ?_)
  · skip
    have c_8 := bI_0.mp c_8
    refine lv_iconst (v := 1) hx hb dX6_ended_47 (by decide) ?_
    refine va_put (D := (dC, dI)) (ci := 3) (v := .int 1) (ty := .int) (C := RX6) (T := TX6) (N := 19) hx hb hts hinX6 tyX6 tyX6_ok nmX6 hown hK hP (hDD.va rfl) hS 0 rfl rfl 0 (by decide) (hts (.fieldLink RX6 64 "RoyalUrTableModel" "thrown" "I") (List.mem_of_getElem? (i := 1) rfl)) (fun _ h9 => h9) rfl (by decide +kernel) rfl rfl (Nat.le_of_ble_eq_true rfl) dX6_ended_48 (fun H locs hP hD9 hS => ?_)
    have hP : va_P (dC, dI) vwCl [(bx, .inr (3, [.int 1, .int (nI k), .int sI, .int tI, .int wI, .int cI, .ref bl, .ref ba, .ref bt, .ref bg, .ref be, .ref bf, .ref bw, .ref bs, .ref bm, .ref bn, .ref bb, .ref bu, .ref bh])), (bt, .inl (cyI, 5, .inl tf)), (bg, .inl (cyI, 225, .inl gf)), (be, .inl (cyI, 225, .inl ef))] H := hP
    refine lv_aload_n hx hb dX6_ended_51 rfl (lv_at hl 0 rfl) ?_
    refine va_get (D := (dC, dI)) (ci := 3) (v := .int 1) (C := RX6) (T := TX6) (N := 19) hx hb hts hinX6 hown hK hP 0 rfl rfl 0 (by decide) (hts (.fieldLink RX6 64 "RoyalUrTableModel" "thrown" "I") (List.mem_of_getElem? (i := 1) rfl)) (fun _ h9 => h9) rfl dX6_ended_52 ?_
    refine lv_if_le (tgt := 60) hx hb dX6_ended_55 (by decide) (fun c9 => absurd c9 (by decide)) (fun _ => ?_)
    refine lv_iconst (v := 0) hx hb dX6_ended_58 (by decide) ?_
    exact W.iret (v := 0) hx hb hr (fun t ht hW => ⟨⟨_, (1, gf, ef), rfl, Or.inr ⟨rfl, (fun ⟨⟨a9, b8, h1, h2, h3, h4, h5⟩, h6⟩ => zin_bf (n := 14) (by decide) c_8 ((zin_iff (n := 14) (by decide)).mpr ⟨a9, h1, h3⟩))⟩, zh ht hP⟩, hS.F ht⟩) hS.2.2 dX6_ended_59
  · skip
    have c_8 := bI_1.mp c_8
    obtain ⟨a, ha, rfl⟩ := zin_b (n := 14) (by decide) c_8
    refine lv_iload_n hx hb dX6_ended_11 rfl (lv_at hl 2 rfl) ?_
    refine lv_iconst (v := 0) hx hb dX6_ended_12 (by decide) ?_
    refine lv_bipush (v := 14) hx hb dX6_ended_13 (by decide) ?_
    refine zro_i (va_runS (As := [.int v2, .int 0, .int 14]) (rest := [.ref bx]) ⟨hx, hb, hml, hown, hts⟩ (c_X6_in l v2 0 14) (va_cwS 3 hts gX6_ended_X6_in rfl rfl rfl (by decide +kernel) ⟨Nat.le_of_ble_eq_true rfl, Nat.le_of_ble_eq_true rfl⟩) zPu rfl rfl hl.1 rfl (lv_room (Nat.le_of_ble_eq_true rfl)) dX6_ended_15 ⟨Nat.zero_le _, Nat.zero_le _⟩) hP hS (fun H locs hP hS => ?_)
    refine lv_if_eq (tgt := 47) hx hb dX6_ended_18 (by decide) (fun c_18 => ?_) (fun c_18 => ?_)
    · skip
      have c_18 := bI_0.mp c_18
      refine lv_iconst (v := 1) hx hb dX6_ended_47 (by decide) ?_
      refine va_put (D := (dC, dI)) (ci := 3) (v := .int 1) (ty := .int) (C := RX6) (T := TX6) (N := 19) hx hb hts hinX6 tyX6 tyX6_ok nmX6 hown hK hP (hDD.va rfl) hS 0 rfl rfl 0 (by decide) (hts (.fieldLink RX6 64 "RoyalUrTableModel" "thrown" "I") (List.mem_of_getElem? (i := 1) rfl)) (fun _ h9 => h9) rfl (by decide +kernel) rfl rfl (Nat.le_of_ble_eq_true rfl) dX6_ended_48 (fun H locs hP hD9 hS => ?_)
      have hP : va_P (dC, dI) vwCl [(bx, .inr (3, [.int 1, .int (nI k), .int sI, .int tI, .int wI, .int cI, .ref bl, .ref ba, .ref bt, .ref bg, .ref be, .ref bf, .ref bw, .ref bs, .ref bm, .ref bn, .ref bb, .ref bu, .ref bh])), (bt, .inl (cyI, 5, .inl tf)), (bg, .inl (cyI, 225, .inl gf)), (be, .inl (cyI, 225, .inl ef))] H := hP
      refine lv_aload_n hx hb dX6_ended_51 rfl (lv_at hl 0 rfl) ?_
      refine va_get (D := (dC, dI)) (ci := 3) (v := .int 1) (C := RX6) (T := TX6) (N := 19) hx hb hts hinX6 hown hK hP 0 rfl rfl 0 (by decide) (hts (.fieldLink RX6 64 "RoyalUrTableModel" "thrown" "I") (List.mem_of_getElem? (i := 1) rfl)) (fun _ h9 => h9) rfl dX6_ended_52 ?_
      refine lv_if_le (tgt := 60) hx hb dX6_ended_55 (by decide) (fun c9 => absurd c9 (by decide)) (fun _ => ?_)
      refine lv_iconst (v := 0) hx hb dX6_ended_58 (by decide) ?_
      exact W.iret (v := 0) hx hb hr (fun t ht hW => ⟨⟨_, (1, gf, ef), rfl, Or.inr ⟨rfl, (fun ⟨⟨a9, b8, h1, h2, h3, h4, h5⟩, h6⟩ => zin_bf (n := 14) (by decide) c_18 ((zin_iff (n := 14) (by decide)).mpr ⟨b8, h2, h4⟩))⟩, zh ht hP⟩, hS.F ht⟩) hS.2.2 dX6_ended_59
    · skip
      have c_18 := bI_1.mp c_18
      obtain ⟨b, hb9, rfl⟩ := zin_b (n := 14) (by decide) c_18
      refine lv_iload_n hx hb dX6_ended_21 rfl (lv_at hl 3 rfl) ?_
      refine lv_iconst (v := 0) hx hb dX6_ended_22 (by decide) ?_
      refine lv_iload hx hb dX6_ended_23 (lv_at hl 4 rfl) ?_
      refine zro_i (va_runS (As := [.int v3, .int 0, .int (nI M)]) (rest := [.ref bx]) ⟨hx, hb, hml, hown, hts⟩ (c_X6_in l v3 0 (nI M)) (va_cwS 3 hts gX6_ended_X6_in rfl rfl rfl (by decide +kernel) ⟨Nat.le_of_ble_eq_true rfl, Nat.le_of_ble_eq_true rfl⟩) zPu rfl rfl hl.1 rfl (lv_room (Nat.le_of_ble_eq_true rfl)) dX6_ended_25 ⟨Nat.zero_le _, Nat.zero_le _⟩) hP hS (fun H locs hP hS => ?_)
      refine lv_if_eq (tgt := 47) hx hb dX6_ended_28 (by decide) (fun c_28 => ?_) (fun c_28 => ?_)
      · skip
        have c_28 := bI_0.mp c_28
        refine lv_iconst (v := 1) hx hb dX6_ended_47 (by decide) ?_
        refine va_put (D := (dC, dI)) (ci := 3) (v := .int 1) (ty := .int) (C := RX6) (T := TX6) (N := 19) hx hb hts hinX6 tyX6 tyX6_ok nmX6 hown hK hP (hDD.va rfl) hS 0 rfl rfl 0 (by decide) (hts (.fieldLink RX6 64 "RoyalUrTableModel" "thrown" "I") (List.mem_of_getElem? (i := 1) rfl)) (fun _ h9 => h9) rfl (by decide +kernel) rfl rfl (Nat.le_of_ble_eq_true rfl) dX6_ended_48 (fun H locs hP hD9 hS => ?_)
        have hP : va_P (dC, dI) vwCl [(bx, .inr (3, [.int 1, .int (nI k), .int sI, .int tI, .int wI, .int cI, .ref bl, .ref ba, .ref bt, .ref bg, .ref be, .ref bf, .ref bw, .ref bs, .ref bm, .ref bn, .ref bb, .ref bu, .ref bh])), (bt, .inl (cyI, 5, .inl tf)), (bg, .inl (cyI, 225, .inl gf)), (be, .inl (cyI, 225, .inl ef))] H := hP
        refine lv_aload_n hx hb dX6_ended_51 rfl (lv_at hl 0 rfl) ?_
        refine va_get (D := (dC, dI)) (ci := 3) (v := .int 1) (C := RX6) (T := TX6) (N := 19) hx hb hts hinX6 hown hK hP 0 rfl rfl 0 (by decide) (hts (.fieldLink RX6 64 "RoyalUrTableModel" "thrown" "I") (List.mem_of_getElem? (i := 1) rfl)) (fun _ h9 => h9) rfl dX6_ended_52 ?_
        refine lv_if_le (tgt := 60) hx hb dX6_ended_55 (by decide) (fun c9 => absurd c9 (by decide)) (fun _ => ?_)
        refine lv_iconst (v := 0) hx hb dX6_ended_58 (by decide) ?_
        exact W.iret (v := 0) hx hb hr (fun t ht hW => ⟨⟨_, (1, gf, ef), rfl, Or.inr ⟨rfl, (fun h => zin_bf hM c_28 h.2)⟩, zh ht hP⟩, hS.F ht⟩) hS.2.2 dX6_ended_59
      · skip
        have c_28 := bI_1.mp c_28
        obtain ⟨rr, hrr, rfl⟩ := zin_b (n := M) hM c_28
        refine lv_iload_n hx hb dX6_ended_31 rfl (lv_at hl 1 rfl) ?_
        refine lv_iload_n hx hb dX6_ended_32 rfl (lv_at hl 2 rfl) ?_
        refine lv_icmp_ne (tgt := 43) hx hb dX6_ended_33 (by decide) (fun c_33 => ?_) (fun c_33 => ?_)
        · skip
          have c_33 : ¬ a = b := fun h9 => c_33 ((nI_eq (a := a) (b := b) (by omega) (by omega)).mpr h9)
          refine lv_iconst (v := 0) hx hb dX6_ended_43 (by decide) ?_
          refine lv_goto (tgt := 48) hx hb dX6_ended_44 (by decide) ?_
          refine va_put (D := (dC, dI)) (ci := 3) (v := .int 0) (ty := .int) (C := RX6) (T := TX6) (N := 19) hx hb hts hinX6 tyX6 tyX6_ok nmX6 hown hK hP (hDD.va rfl) hS 0 rfl rfl 0 (by decide) (hts (.fieldLink RX6 64 "RoyalUrTableModel" "thrown" "I") (List.mem_of_getElem? (i := 1) rfl)) (fun _ h9 => h9) rfl (by decide +kernel) rfl rfl (Nat.le_of_ble_eq_true rfl) dX6_ended_48 (fun H locs hP hD9 hS => ?_)
          have hP : va_P (dC, dI) vwCl [(bx, .inr (3, [.int 0, .int (nI k), .int sI, .int tI, .int wI, .int cI, .ref bl, .ref ba, .ref bt, .ref bg, .ref be, .ref bf, .ref bw, .ref bs, .ref bm, .ref bn, .ref bb, .ref bu, .ref bh])), (bt, .inl (cyI, 5, .inl tf)), (bg, .inl (cyI, 225, .inl gf)), (be, .inl (cyI, 225, .inl ef))] H := hP
          refine lv_aload_n hx hb dX6_ended_51 rfl (lv_at hl 0 rfl) ?_
          refine va_get (D := (dC, dI)) (ci := 3) (v := .int 0) (C := RX6) (T := TX6) (N := 19) hx hb hts hinX6 hown hK hP 0 rfl rfl 0 (by decide) (hts (.fieldLink RX6 64 "RoyalUrTableModel" "thrown" "I") (List.mem_of_getElem? (i := 1) rfl)) (fun _ h9 => h9) rfl dX6_ended_52 ?_
          refine lv_if_le (tgt := 60) hx hb dX6_ended_55 (by decide) (fun _ => ?_) (fun c9 => absurd c9 (by decide))
          refine lv_aload_n hx hb dX6_ended_60 rfl (lv_at hl 0 rfl) ?_
          refine lv_iload_n hx hb dX6_ended_61 rfl (lv_at hl 3 rfl) ?_
          refine zrw_v (w1 := fun u : (Nat → Int32) × (Nat → Int32) => [(bx, .inr (3, [.int 0, .int (nI k), .int sI, .int tI, .int wI, .int cI, .ref bl, .ref ba, .ref bt, .ref bg, .ref be, .ref bf, .ref bw, .ref bs, .ref bm, .ref bn, .ref bb, .ref bu, .ref bh])), (bt, .inl (cyI, 5, .inl tf)), (bg, .inl (cyI, 225, .inl u.1)), (be, .inl (cyI, 225, .inl u.2))]) (al := [bx, bt, bg, be]) (va_runV (As := [.int (nI rr)]) (rest := []) ⟨hx, hb, hml, hown, hts⟩ (c_X6_layTable l dC dI cyI cyJ k bx bl ba bt bg be bf bw bs bm bn bb bu bh 0 sI tI wI cI tf gf ef rr (by omega) htf (z_nd hDD.1 [0, 1, 2, 3] (by decide) rfl)) (cwV 1 hts gX6_ended_X6_layTable rfl rfl rfl (by decide +kernel) ⟨Nat.le_of_ble_eq_true rfl, Nat.le_of_ble_eq_true rfl⟩) (zPc_V (ci := 3) (q0 := 0) zB_T hP hK rfl rfl [0, 1, 2, 3] rfl (fun _ _ _ => trivial)) rfl rfl hl.1 rfl (lv_room (Nat.le_of_ble_eq_true rfl)) dX6_ended_62 ⟨Nat.zero_le _, Nat.zero_le _⟩) hP hDD hS [0, 1, 2, 3] rfl (fun _ => rfl) (fun u_62 H locs hw_62 hP hS => ?_)
          have hP : va_P (dC, dI) vwCl [(bx, .inr (3, [.int 0, .int (nI k), .int sI, .int tI, .int wI, .int cI, .ref bl, .ref ba, .ref bt, .ref bg, .ref be, .ref bf, .ref bw, .ref bs, .ref bm, .ref bn, .ref bb, .ref bu, .ref bh])), (bt, .inl (cyI, 5, .inl tf)), (bg, .inl (cyI, 225, .inl u_62.1)), (be, .inl (cyI, 225, .inl u_62.2))] H := hP
          refine lv_aload_n hx hb dX6_ended_65 rfl (lv_at hl 0 rfl) ?_
          refine va_get (D := (dC, dI)) (ci := 3) (v := .ref bg) (C := RX6) (T := TX6) (N := 19) hx hb hts hinX6 hown hK hP 0 rfl rfl 9 (by decide) (hts (.fieldLink RX6 26 "RoyalUrTableModel" "table" "[I") (List.mem_of_getElem? (i := 2) rfl)) (fun _ h9 => h9) rfl dX6_ended_66 ?_
          refine lv_bipush (v := 15) hx hb dX6_ended_69 (by decide) ?_
          refine lv_iload_n hx hb dX6_ended_71 rfl (lv_at hl 1 rfl) ?_
          refine lv_imul hx hb dX6_ended_72 ?_
          refine zz_i (y := nI (15 * a)) (pk_mul 15 a) ?_
          refine lv_iload_n hx hb dX6_ended_73 rfl (lv_at hl 2 rfl) ?_
          refine lv_iadd hx hb dX6_ended_74 ?_
          refine zz_i (y := nI (15 * a + b)) (nI_add (15 * a) b) ?_
          refine zi_iald hx hb hK hP 2 0 rfl rfl (j := 15 * a + b) rfl (by omega) (by decide) dX6_ended_75 ?_
          refine zz_i (y := nI (zE rr a b)) (hw_62 a b (by omega) (by omega)) ?_
          exact W.iret (v := nI (zE rr a b)) hx hb hr (fun t ht hW => ⟨⟨_, (0, u_62.1, u_62.2), rfl, Or.inl ⟨rfl, a, b, rr, ha, hb9, hrr, rfl, rfl, rfl, (fun h => c_33 h.1), rfl⟩, zh ht hP⟩, hS.F ht⟩) hS.2.2 dX6_ended_76
        · skip
          have c_33 : a = b := (nI_eq (a := a) (b := b) (by omega) (by omega)).mp c_33
          refine lv_iload_n hx hb dX6_ended_36 rfl (lv_at hl 1 rfl) ?_
          refine zro_i (va_runS (As := [.int (nI a)]) (rest := [.ref bx]) ⟨hx, hb, hml, hown, hts⟩ (c_X6_isShared l a (by omega)) (va_cwS 1 hts gX6_ended_X6_isShared rfl rfl rfl (by decide +kernel) ⟨Nat.le_of_ble_eq_true rfl, Nat.le_of_ble_eq_true rfl⟩) zPu rfl rfl hl.1 rfl (lv_room (Nat.le_of_ble_eq_true rfl)) dX6_ended_37 ⟨Nat.zero_le _, Nat.zero_le _⟩) hP hS (fun H locs hP hS => ?_)
          refine lv_if_ne (tgt := 47) hx hb dX6_ended_40 (by decide) (fun c_40 => ?_) (fun c_40 => ?_)
          · skip
            have c_40 := bI_1.mp c_40
            refine lv_iconst (v := 1) hx hb dX6_ended_47 (by decide) ?_
            refine va_put (D := (dC, dI)) (ci := 3) (v := .int 1) (ty := .int) (C := RX6) (T := TX6) (N := 19) hx hb hts hinX6 tyX6 tyX6_ok nmX6 hown hK hP (hDD.va rfl) hS 0 rfl rfl 0 (by decide) (hts (.fieldLink RX6 64 "RoyalUrTableModel" "thrown" "I") (List.mem_of_getElem? (i := 1) rfl)) (fun _ h9 => h9) rfl (by decide +kernel) rfl rfl (Nat.le_of_ble_eq_true rfl) dX6_ended_48 (fun H locs hP hD9 hS => ?_)
            have hP : va_P (dC, dI) vwCl [(bx, .inr (3, [.int 1, .int (nI k), .int sI, .int tI, .int wI, .int cI, .ref bl, .ref ba, .ref bt, .ref bg, .ref be, .ref bf, .ref bw, .ref bs, .ref bm, .ref bn, .ref bb, .ref bu, .ref bh])), (bt, .inl (cyI, 5, .inl tf)), (bg, .inl (cyI, 225, .inl gf)), (be, .inl (cyI, 225, .inl ef))] H := hP
            refine lv_aload_n hx hb dX6_ended_51 rfl (lv_at hl 0 rfl) ?_
            refine va_get (D := (dC, dI)) (ci := 3) (v := .int 1) (C := RX6) (T := TX6) (N := 19) hx hb hts hinX6 hown hK hP 0 rfl rfl 0 (by decide) (hts (.fieldLink RX6 64 "RoyalUrTableModel" "thrown" "I") (List.mem_of_getElem? (i := 1) rfl)) (fun _ h9 => h9) rfl dX6_ended_52 ?_
            refine lv_if_le (tgt := 60) hx hb dX6_ended_55 (by decide) (fun c9 => absurd c9 (by decide)) (fun _ => ?_)
            refine lv_iconst (v := 0) hx hb dX6_ended_58 (by decide) ?_
            exact W.iret (v := 0) hx hb hr (fun t ht hW => ⟨⟨_, (1, gf, ef), rfl, Or.inr ⟨rfl, (fun ⟨⟨a9, b8, h1, h2, h3, h4, h5⟩, h6⟩ => h5 ⟨((nI_eq (by omega) (by omega)).mp h3).symm.trans (c_33.trans ((nI_eq (by omega) (by omega)).mp h4)), by rw [← (nI_eq (by omega) (by omega)).mp h3]; exact c_40⟩)⟩, zh ht hP⟩, hS.F ht⟩) hS.2.2 dX6_ended_59
          · skip
            have c_40 := bI_0.mp c_40
            refine lv_iconst (v := 0) hx hb dX6_ended_43 (by decide) ?_
            refine lv_goto (tgt := 48) hx hb dX6_ended_44 (by decide) ?_
            refine va_put (D := (dC, dI)) (ci := 3) (v := .int 0) (ty := .int) (C := RX6) (T := TX6) (N := 19) hx hb hts hinX6 tyX6 tyX6_ok nmX6 hown hK hP (hDD.va rfl) hS 0 rfl rfl 0 (by decide) (hts (.fieldLink RX6 64 "RoyalUrTableModel" "thrown" "I") (List.mem_of_getElem? (i := 1) rfl)) (fun _ h9 => h9) rfl (by decide +kernel) rfl rfl (Nat.le_of_ble_eq_true rfl) dX6_ended_48 (fun H locs hP hD9 hS => ?_)
            have hP : va_P (dC, dI) vwCl [(bx, .inr (3, [.int 0, .int (nI k), .int sI, .int tI, .int wI, .int cI, .ref bl, .ref ba, .ref bt, .ref bg, .ref be, .ref bf, .ref bw, .ref bs, .ref bm, .ref bn, .ref bb, .ref bu, .ref bh])), (bt, .inl (cyI, 5, .inl tf)), (bg, .inl (cyI, 225, .inl gf)), (be, .inl (cyI, 225, .inl ef))] H := hP
            refine lv_aload_n hx hb dX6_ended_51 rfl (lv_at hl 0 rfl) ?_
            refine va_get (D := (dC, dI)) (ci := 3) (v := .int 0) (C := RX6) (T := TX6) (N := 19) hx hb hts hinX6 hown hK hP 0 rfl rfl 0 (by decide) (hts (.fieldLink RX6 64 "RoyalUrTableModel" "thrown" "I") (List.mem_of_getElem? (i := 1) rfl)) (fun _ h9 => h9) rfl dX6_ended_52 ?_
            refine lv_if_le (tgt := 60) hx hb dX6_ended_55 (by decide) (fun _ => ?_) (fun c9 => absurd c9 (by decide))
            refine lv_aload_n hx hb dX6_ended_60 rfl (lv_at hl 0 rfl) ?_
            refine lv_iload_n hx hb dX6_ended_61 rfl (lv_at hl 3 rfl) ?_
            refine zrw_v (w1 := fun u : (Nat → Int32) × (Nat → Int32) => [(bx, .inr (3, [.int 0, .int (nI k), .int sI, .int tI, .int wI, .int cI, .ref bl, .ref ba, .ref bt, .ref bg, .ref be, .ref bf, .ref bw, .ref bs, .ref bm, .ref bn, .ref bb, .ref bu, .ref bh])), (bt, .inl (cyI, 5, .inl tf)), (bg, .inl (cyI, 225, .inl u.1)), (be, .inl (cyI, 225, .inl u.2))]) (al := [bx, bt, bg, be]) (va_runV (As := [.int (nI rr)]) (rest := []) ⟨hx, hb, hml, hown, hts⟩ (c_X6_layTable l dC dI cyI cyJ k bx bl ba bt bg be bf bw bs bm bn bb bu bh 0 sI tI wI cI tf gf ef rr (by omega) htf (z_nd hDD.1 [0, 1, 2, 3] (by decide) rfl)) (cwV 1 hts gX6_ended_X6_layTable rfl rfl rfl (by decide +kernel) ⟨Nat.le_of_ble_eq_true rfl, Nat.le_of_ble_eq_true rfl⟩) (zPc_V (ci := 3) (q0 := 0) zB_T hP hK rfl rfl [0, 1, 2, 3] rfl (fun _ _ _ => trivial)) rfl rfl hl.1 rfl (lv_room (Nat.le_of_ble_eq_true rfl)) dX6_ended_62 ⟨Nat.zero_le _, Nat.zero_le _⟩) hP hDD hS [0, 1, 2, 3] rfl (fun _ => rfl) (fun u_62 H locs hw_62 hP hS => ?_)
            have hP : va_P (dC, dI) vwCl [(bx, .inr (3, [.int 0, .int (nI k), .int sI, .int tI, .int wI, .int cI, .ref bl, .ref ba, .ref bt, .ref bg, .ref be, .ref bf, .ref bw, .ref bs, .ref bm, .ref bn, .ref bb, .ref bu, .ref bh])), (bt, .inl (cyI, 5, .inl tf)), (bg, .inl (cyI, 225, .inl u_62.1)), (be, .inl (cyI, 225, .inl u_62.2))] H := hP
            refine lv_aload_n hx hb dX6_ended_65 rfl (lv_at hl 0 rfl) ?_
            refine va_get (D := (dC, dI)) (ci := 3) (v := .ref bg) (C := RX6) (T := TX6) (N := 19) hx hb hts hinX6 hown hK hP 0 rfl rfl 9 (by decide) (hts (.fieldLink RX6 26 "RoyalUrTableModel" "table" "[I") (List.mem_of_getElem? (i := 2) rfl)) (fun _ h9 => h9) rfl dX6_ended_66 ?_
            refine lv_bipush (v := 15) hx hb dX6_ended_69 (by decide) ?_
            refine lv_iload_n hx hb dX6_ended_71 rfl (lv_at hl 1 rfl) ?_
            refine lv_imul hx hb dX6_ended_72 ?_
            refine zz_i (y := nI (15 * a)) (pk_mul 15 a) ?_
            refine lv_iload_n hx hb dX6_ended_73 rfl (lv_at hl 2 rfl) ?_
            refine lv_iadd hx hb dX6_ended_74 ?_
            refine zz_i (y := nI (15 * a + b)) (nI_add (15 * a) b) ?_
            refine zi_iald hx hb hK hP 2 0 rfl rfl (j := 15 * a + b) rfl (by omega) (by decide) dX6_ended_75 ?_
            refine zz_i (y := nI (zE rr a b)) (hw_62 a b (by omega) (by omega)) ?_
            exact W.iret (v := nI (zE rr a b)) hx hb hr (fun t ht hW => ⟨⟨_, (0, u_62.1, u_62.2), rfl, Or.inl ⟨rfl, a, b, rr, ha, hb9, hrr, rfl, rfl, rfl, (fun h => by rw [h.2] at c_40; cases c_40), rfl⟩, zh ht hP⟩, hS.F ht⟩) hS.2.2 dX6_ended_76

set_option maxHeartbeats 4000000 in
set_option maxRecDepth 100000 in
theorem c_X6_ending (l : Launch) (dC : Nat → ClassId) (dI : Nat → Nat → Nat) (cyI cyJ : ClassId) (k : Nat) (bx bl ba bt bg be bf bw bs bm bn bb bu bh : Nat) (thr sI tI wI cI : Int32) (tf gf ef : Nat → Int32) (htf : ∀ j, j < 5 → tf j = nI (ztm j)) (v1 v2 v3 : Int32) (hnd : [bx, bt, bg, be].Nodup) : Met l yX6_ending wsX6_ending ({ frames := 5, cells := 0, slots := 0, locals := 117 }) (zPc [.ref bx, .int v1, .int v2, .int v3] (dC, dI) vwCl [(cyI, .int), (cyJ, .long)] [(bx, .inr (3, [.int thr, .int (nI k), .int sI, .int tI, .int wI, .int cI, .ref bl, .ref ba, .ref bt, .ref bg, .ref be, .ref bf, .ref bw, .ref bs, .ref bm, .ref bn, .ref bb, .ref bu, .ref bh])), (bt, .inl (cyI, 5, .inl tf)), (bg, .inl (cyI, 225, .inl gf)), (be, .inl (cyI, 225, .inl ef))] (fun _ => True)) (va_Qi (fun (r : Int32) (u : Int32 × (Nat → Int32) × (Nat → Int32)) => (u.1 = 0 ∧ ∃ a b rr : Nat, a ≤ 14 ∧ b ≤ 14 ∧ rr ≤ 60 ∧ v1 = nI a ∧ v2 = nI b ∧ v3 = nI rr ∧ ¬ (a = b ∧ zshr a = true) ∧ r = nI (zE rr a b)) ∨ (u.1 = 1 ∧ ¬ (zEnd v1 v2 ∧ (0 ≤ v3 ∧ v3 ≤ 60)))) (fun (u : Int32 × (Nat → Int32) × (Nat → Int32)) t => va_P (dC, dI) vwCl ([(bx, .inr (3, [.int u.1, .int (nI k), .int sI, .int tI, .int wI, .int cI, .ref bl, .ref ba, .ref bt, .ref bg, .ref be, .ref bf, .ref bw, .ref bs, .ref bm, .ref bn, .ref bb, .ref bu, .ref bh])), (bt, .inl (cyI, 5, .inl tf)), (bg, .inl (cyI, 225, .inl u.2.1)), (be, .inl (cyI, 225, .inl u.2.2))]) t.heap) (zA [bx, bt, bg, be])) 0 0 (zA [bx, bt, bg, be]) := by
  refine Met.ofW (cc := cX6_ending) (maxL := 4) (ret := (some .int)) (by decide) rfl ?_
  intro p e s m args below meth c s₁ B hml hv
  obtain ⟨rfl, hP, hK, hX⟩ := hv
  have hx := B.exec
  have hb := B.bytes
  have hr := B.returns
  have hts := atoms_spec (ws := wsX6_ending) B.pre
  have hown : s.vm.findClass RX6 = some m.cls := findClass_of_methodNamed B.named
  have hlocks := B.notSynchronized
  have hl := lv_entry ([.ref bx, .int v1, .int v2, .int v3]) (n := 4) (Nat.le_of_ble_eq_true rfl)
  rw [lg_entry_eq]
  generalize (lg_sl ([.ref bx, .int v1, .int v2, .int v3]) ++ List.replicate (4 - (lg_sl ([.ref bx, .int v1, .int v2, .int v3])).length) Slot.unset).toArray = ls at hl ⊢
  have hl : lv_has ls 4 [(0, .ref bx), (1, .int v1), (2, .int v2), (3, .int v3)] := hl
  have hS : va_S (zA [bx, bt, bg, be]) s.heap s.heap [] := va_S.rf
  have hDD : zD (zA [bx, bt, bg, be]) [bx, bt, bg, be] := ⟨hnd, fun _ h => h⟩
  refine lv_aload_n hx hb dX6_ending_0 rfl (lv_at hl 0 rfl) ?_
  refine lv_iload_n hx hb dX6_ending_1 rfl (lv_at hl 1 rfl) ?_
  refine lv_iload_n hx hb dX6_ending_2 rfl (lv_at hl 2 rfl) ?_
  refine lv_iload_n hx hb dX6_ending_3 rfl (lv_at hl 3 rfl) ?_
  refine lv_bipush (v := 60) hx hb dX6_ending_4 (by decide) ?_
  refine zrw_i (w1 := fun u : Int32 × (Nat → Int32) × (Nat → Int32) => [(bx, .inr (3, [.int u.1, .int (nI k), .int sI, .int tI, .int wI, .int cI, .ref bl, .ref ba, .ref bt, .ref bg, .ref be, .ref bf, .ref bw, .ref bs, .ref bm, .ref bn, .ref bb, .ref bu, .ref bh])), (bt, .inl (cyI, 5, .inl tf)), (bg, .inl (cyI, 225, .inl u.2.1)), (be, .inl (cyI, 225, .inl u.2.2))]) (al := [bx, bt, bg, be]) (va_runV (As := [.int v1, .int v2, .int v3, .int 60]) (rest := []) ⟨hx, hb, hml, hown, hts⟩ (c_X6_ended l dC dI cyI cyJ k bx bl ba bt bg be bf bw bs bm bn bb bu bh thr sI tI wI cI tf gf ef htf v1 v2 v3 60 (by omega) (by omega) hDD.1) (cwV 4 hts gX6_ending_X6_ended rfl rfl rfl (by decide +kernel) ⟨Nat.le_of_ble_eq_true rfl, Nat.le_of_ble_eq_true rfl⟩) (zPc_V (ci := 3) (q0 := 0) zB_T hP hK rfl rfl [0, 1, 2, 3] rfl (fun _ _ _ => trivial)) rfl rfl hl.1 rfl (lv_room (Nat.le_of_ble_eq_true rfl)) dX6_ending_6 ⟨Nat.zero_le _, Nat.zero_le _⟩) hP hDD hS [0, 1, 2, 3] rfl (fun _ => rfl) (fun r_6 u_6 H locs hw_6 hP hS => ?_)
  have hP : va_P (dC, dI) vwCl [(bx, .inr (3, [.int u_6.1, .int (nI k), .int sI, .int tI, .int wI, .int cI, .ref bl, .ref ba, .ref bt, .ref bg, .ref be, .ref bf, .ref bw, .ref bs, .ref bm, .ref bn, .ref bb, .ref bu, .ref bh])), (bt, .inl (cyI, 5, .inl tf)), (bg, .inl (cyI, 225, .inl u_6.2.1)), (be, .inl (cyI, 225, .inl u_6.2.2))] H := hP
  exact W.iret (v := r_6) hx hb hr (fun t ht hW => ⟨⟨_, u_6, rfl, hw_6, zh ht hP⟩, hS.F ht⟩) hS.2.2 dX6_ending_9

set_option maxHeartbeats 4000000 in
set_option maxRecDepth 100000 in
theorem c_X6_endingByThrows (l : Launch) (dC : Nat → ClassId) (dI : Nat → Nat → Nat) (cyI cyJ : ClassId) (k : Nat) (bx bl ba bt bg be bf bw bs bm bn bb bu bh : Nat) (thr sI tI wI cI : Int32) (tf gf ef : Nat → Int32) (htf : ∀ j, j < 5 → tf j = nI (ztm j)) (v1 v2 v3 : Int32) (hnd : [bx, bt, bg, be].Nodup) : Met l yX6_endingByThrows wsX6_endingByThrows ({ frames := 5, cells := 0, slots := 0, locals := 117 }) (zPc [.ref bx, .int v1, .int v2, .int v3] (dC, dI) vwCl [(cyI, .int), (cyJ, .long)] [(bx, .inr (3, [.int thr, .int (nI k), .int sI, .int tI, .int wI, .int cI, .ref bl, .ref ba, .ref bt, .ref bg, .ref be, .ref bf, .ref bw, .ref bs, .ref bm, .ref bn, .ref bb, .ref bu, .ref bh])), (bt, .inl (cyI, 5, .inl tf)), (bg, .inl (cyI, 225, .inl gf)), (be, .inl (cyI, 225, .inl ef))] (fun _ => True)) (va_Qi (fun (r : Int32) (u : Int32 × (Nat → Int32) × (Nat → Int32)) => (u.1 = 0 ∧ ∃ a b rr : Nat, a ≤ 14 ∧ b ≤ 14 ∧ rr ≤ 5 ∧ v1 = nI a ∧ v2 = nI b ∧ v3 = nI rr ∧ ¬ (a = b ∧ zshr a = true) ∧ r = nI (zE rr a b)) ∨ (u.1 = 1 ∧ ¬ (zEnd v1 v2 ∧ (0 ≤ v3 ∧ v3 ≤ 5)))) (fun (u : Int32 × (Nat → Int32) × (Nat → Int32)) t => va_P (dC, dI) vwCl ([(bx, .inr (3, [.int u.1, .int (nI k), .int sI, .int tI, .int wI, .int cI, .ref bl, .ref ba, .ref bt, .ref bg, .ref be, .ref bf, .ref bw, .ref bs, .ref bm, .ref bn, .ref bb, .ref bu, .ref bh])), (bt, .inl (cyI, 5, .inl tf)), (bg, .inl (cyI, 225, .inl u.2.1)), (be, .inl (cyI, 225, .inl u.2.2))]) t.heap) (zA [bx, bt, bg, be])) 0 0 (zA [bx, bt, bg, be]) := by
  refine Met.ofW (cc := cX6_endingByThrows) (maxL := 4) (ret := (some .int)) (by decide) rfl ?_
  intro p e s m args below meth c s₁ B hml hv
  obtain ⟨rfl, hP, hK, hX⟩ := hv
  have hx := B.exec
  have hb := B.bytes
  have hr := B.returns
  have hts := atoms_spec (ws := wsX6_endingByThrows) B.pre
  have hown : s.vm.findClass RX6 = some m.cls := findClass_of_methodNamed B.named
  have hlocks := B.notSynchronized
  have hl := lv_entry ([.ref bx, .int v1, .int v2, .int v3]) (n := 4) (Nat.le_of_ble_eq_true rfl)
  rw [lg_entry_eq]
  generalize (lg_sl ([.ref bx, .int v1, .int v2, .int v3]) ++ List.replicate (4 - (lg_sl ([.ref bx, .int v1, .int v2, .int v3])).length) Slot.unset).toArray = ls at hl ⊢
  have hl : lv_has ls 4 [(0, .ref bx), (1, .int v1), (2, .int v2), (3, .int v3)] := hl
  have hS : va_S (zA [bx, bt, bg, be]) s.heap s.heap [] := va_S.rf
  have hDD : zD (zA [bx, bt, bg, be]) [bx, bt, bg, be] := ⟨hnd, fun _ h => h⟩
  refine lv_aload_n hx hb dX6_endingByThrows_0 rfl (lv_at hl 0 rfl) ?_
  refine lv_iload_n hx hb dX6_endingByThrows_1 rfl (lv_at hl 1 rfl) ?_
  refine lv_iload_n hx hb dX6_endingByThrows_2 rfl (lv_at hl 2 rfl) ?_
  refine lv_iload_n hx hb dX6_endingByThrows_3 rfl (lv_at hl 3 rfl) ?_
  refine lv_iconst (v := 5) hx hb dX6_endingByThrows_4 (by decide) ?_
  refine zrw_i (w1 := fun u : Int32 × (Nat → Int32) × (Nat → Int32) => [(bx, .inr (3, [.int u.1, .int (nI k), .int sI, .int tI, .int wI, .int cI, .ref bl, .ref ba, .ref bt, .ref bg, .ref be, .ref bf, .ref bw, .ref bs, .ref bm, .ref bn, .ref bb, .ref bu, .ref bh])), (bt, .inl (cyI, 5, .inl tf)), (bg, .inl (cyI, 225, .inl u.2.1)), (be, .inl (cyI, 225, .inl u.2.2))]) (al := [bx, bt, bg, be]) (va_runV (As := [.int v1, .int v2, .int v3, .int 5]) (rest := []) ⟨hx, hb, hml, hown, hts⟩ (c_X6_ended l dC dI cyI cyJ k bx bl ba bt bg be bf bw bs bm bn bb bu bh thr sI tI wI cI tf gf ef htf v1 v2 v3 5 (by omega) (by omega) hDD.1) (cwV 4 hts gX6_endingByThrows_X6_ended rfl rfl rfl (by decide +kernel) ⟨Nat.le_of_ble_eq_true rfl, Nat.le_of_ble_eq_true rfl⟩) (zPc_V (ci := 3) (q0 := 0) zB_T hP hK rfl rfl [0, 1, 2, 3] rfl (fun _ _ _ => trivial)) rfl rfl hl.1 rfl (lv_room (Nat.le_of_ble_eq_true rfl)) dX6_endingByThrows_5 ⟨Nat.zero_le _, Nat.zero_le _⟩) hP hDD hS [0, 1, 2, 3] rfl (fun _ => rfl) (fun r_5 u_5 H locs hw_5 hP hS => ?_)
  have hP : va_P (dC, dI) vwCl [(bx, .inr (3, [.int u_5.1, .int (nI k), .int sI, .int tI, .int wI, .int cI, .ref bl, .ref ba, .ref bt, .ref bg, .ref be, .ref bf, .ref bw, .ref bs, .ref bm, .ref bn, .ref bb, .ref bu, .ref bh])), (bt, .inl (cyI, 5, .inl tf)), (bg, .inl (cyI, 225, .inl u_5.2.1)), (be, .inl (cyI, 225, .inl u_5.2.2))] H := hP
  exact W.iret (v := r_5) hx hb hr (fun t ht hW => ⟨⟨_, u_5, rfl, hw_5, zh ht hP⟩, hS.F ht⟩) hS.2.2 dX6_endingByThrows_8

set_option maxHeartbeats 4000000 in
set_option maxRecDepth 100000 in
theorem c_X6_tell (l : Launch) (dC : Nat → ClassId) (dI : Nat → Nat → Nat) (cyI cyJ : ClassId) (k : Nat) (bx bl ba bt bg be bf bw bs bm bn bb bu bh : Nat) (thr tI wI cI : Int32) (Af : Nat → Int32) (sd own oth : Nat) (hsd : sd ≤ 1) (hrow : zRow Af 0 sd own oth) (v : Int32) (hnd : [bx, ba].Nodup) : Met l yX6_tell wsX6_tell ({ frames := 2, cells := 0, slots := 0, locals := 49 }) (zPc [.ref bx, .int v] (dC, dI) vwCl [(cyI, .int), (cyJ, .long)] [(bx, .inr (3, [.int thr, .int (nI k), .int (nI sd), .int tI, .int wI, .int cI, .ref bl, .ref ba, .ref bt, .ref bg, .ref be, .ref bf, .ref bw, .ref bs, .ref bm, .ref bn, .ref bb, .ref bu, .ref bh])), (ba, .inl (cyI, 32, .inl Af))] (fun _ => True)) (va_Qi (fun (r : Int32) (u : Int32 × Int32 × Int32 × Int32 × Int32 × Int32) => (u = (1, nI k, nI sd, tI, wI, cI) ∧ ¬ (0 ≤ v ∧ v ≤ 4)) ∨ (u = (2, nI k, nI sd, tI, wI, cI) ∧ zin v 4 ∧ ¬ (wI = -1 ∧ tI = -1)) ∨ (u = (0, nI k, u.2.2.1, u.2.2.2.1, wI, cI + 1) ∧ ∃ mj, mj ≤ 4 ∧ v = nI mj ∧ wI = -1 ∧ tI = -1 ∧ r = nI (zNum own oth mj 15) ∧ u.2.2.1 = (if zNum own oth mj 15 = 0 then nI (1 - sd) else nI sd) ∧ u.2.2.2.1 = (if zNum own oth mj 15 = 0 then -1 else nI mj))) (fun (u : Int32 × Int32 × Int32 × Int32 × Int32 × Int32) t => va_P (dC, dI) vwCl ([(bx, .inr (3, [.int u.1, .int u.2.1, .int u.2.2.1, .int u.2.2.2.1, .int u.2.2.2.2.1, .int u.2.2.2.2.2, .ref bl, .ref ba, .ref bt, .ref bg, .ref be, .ref bf, .ref bw, .ref bs, .ref bm, .ref bn, .ref bb, .ref bu, .ref bh])), (ba, .inl (cyI, 32, .inl Af))]) t.heap) (zA [bx, ba])) 0 0 (zA [bx, ba]) := by
  refine Met.ofW (cc := cX6_tell) (maxL := 3) (ret := (some .int)) (by decide) rfl ?_
  intro p e s m args below meth c s₁ B hml hv
  obtain ⟨rfl, hP, hK, hX⟩ := hv
  have hx := B.exec
  have hb := B.bytes
  have hr := B.returns
  have hts := atoms_spec (ws := wsX6_tell) B.pre
  have hown : s.vm.findClass RX6 = some m.cls := findClass_of_methodNamed B.named
  have hlocks := B.notSynchronized
  have hinX6 : ∀ w ∈ wsX60, w ∈ wsX6_tell := by decide +kernel
  have hl := lv_entry ([.ref bx, .int v]) (n := 3) (Nat.le_of_ble_eq_true rfl)
  rw [lg_entry_eq]
  generalize (lg_sl ([.ref bx, .int v]) ++ List.replicate (3 - (lg_sl ([.ref bx, .int v])).length) Slot.unset).toArray = ls at hl ⊢
  have hl : lv_has ls 3 [(0, .ref bx), (1, .int v)] := hl
  have hS : va_S (zA [bx, ba]) s.heap s.heap [] := va_S.rf
  have hDD : zD (zA [bx, ba]) [bx, ba] := ⟨hnd, fun _ h => h⟩
  refine lv_aload_n hx hb dX6_tell_0 rfl (lv_at hl 0 rfl) ?_
  refine lv_iconst (v := 0) hx hb dX6_tell_1 (by decide) ?_
  refine va_put (D := (dC, dI)) (ci := 3) (v := .int 0) (ty := .int) (C := RX6) (T := TX6) (N := 19) hx hb hts hinX6 tyX6 tyX6_ok nmX6 hown hK hP (hDD.va rfl) hS 0 rfl rfl 0 (by decide) (hts (.fieldLink RX6 64 "RoyalUrTableModel" "thrown" "I") (List.mem_of_getElem? (i := 1) rfl)) (fun _ h9 => h9) rfl (by decide +kernel) rfl rfl (Nat.le_of_ble_eq_true rfl) dX6_tell_2 (fun H locs hP hD9 hS => ?_)
  have hP : va_P (dC, dI) vwCl [(bx, .inr (3, [.int 0, .int (nI k), .int (nI sd), .int tI, .int wI, .int cI, .ref bl, .ref ba, .ref bt, .ref bg, .ref be, .ref bf, .ref bw, .ref bs, .ref bm, .ref bn, .ref bb, .ref bu, .ref bh])), (ba, .inl (cyI, 32, .inl Af))] H := hP
  refine lv_iload_n hx hb dX6_tell_5 rfl (lv_at hl 1 rfl) ?_
  refine lv_iconst (v := 0) hx hb dX6_tell_6 (by decide) ?_
  refine lv_iconst (v := 4) hx hb dX6_tell_7 (by decide) ?_
  refine zro_i (va_runS (As := [.int v, .int 0, .int 4]) (rest := []) ⟨hx, hb, hml, hown, hts⟩ (c_X6_in l v 0 4) (va_cwS 3 hts gX6_tell_X6_in rfl rfl rfl (by decide +kernel) ⟨Nat.le_of_ble_eq_true rfl, Nat.le_of_ble_eq_true rfl⟩) zPu rfl rfl hl.1 rfl (lv_room (Nat.le_of_ble_eq_true rfl)) dX6_tell_8 ⟨Nat.zero_le _, Nat.zero_le _⟩) hP hS (fun H locs hP hS => ?_)
  refine lv_if_ne (tgt := 20) hx hb dX6_tell_11 (by decide) (fun c_11 => ?_) (fun c_11 => ?_)
  · skip
    have c_11 := bI_1.mp c_11
    obtain ⟨mj, hmj, rfl⟩ := zin_b (n := 4) (by decide) c_11
    refine lv_aload_n hx hb dX6_tell_20 rfl (lv_at hl 0 rfl) ?_
    refine va_get (D := (dC, dI)) (ci := 3) (v := .int wI) (C := RX6) (T := TX6) (N := 19) hx hb hts hinX6 hown hK hP 0 rfl rfl 4 (by decide) (hts (.fieldLink RX6 13 "RoyalUrTableModel" "won" "I") (List.mem_of_getElem? (i := 2) rfl)) (fun _ h9 => h9) rfl dX6_tell_21 ?_
    refine lv_iconst (v := -1) hx hb dX6_tell_24 (by decide) ?_
    refine lv_icmp_ne (tgt := 36) hx hb dX6_tell_25 (by decide) (fun c_25 => ?_) (fun c_25 => ?_)
    · skip
      refine lv_aload_n hx hb dX6_tell_36 rfl (lv_at hl 0 rfl) ?_
      refine lv_iconst (v := 2) hx hb dX6_tell_37 (by decide) ?_
      refine zrw_i (w1 := fun _ : Unit => [(bx, .inr (3, [.int 2, .int (nI k), .int (nI sd), .int tI, .int wI, .int cI, .ref bl, .ref ba, .ref bt, .ref bg, .ref be, .ref bf, .ref bw, .ref bs, .ref bm, .ref bn, .ref bb, .ref bu, .ref bh]))]) (al := [bx]) (va_runV (As := [.int 2]) (rest := []) ⟨hx, hb, hml, hown, hts⟩ (c_X6_fails l dC dI cyI cyJ k bx bl ba bt bg be bf bw bs bm bn bb bu bh 0 (nI sd) tI wI cI 2 (z_nd hDD.1 [0] (by decide) rfl)) (cwV 1 hts gX6_tell_X6_fails rfl rfl rfl (by decide +kernel) ⟨Nat.le_of_ble_eq_true rfl, Nat.le_of_ble_eq_true rfl⟩) (zPc_V (ci := 3) (q0 := 0) zB_T hP hK rfl rfl [0] rfl (fun _ _ _ => trivial)) rfl rfl hl.1 rfl (lv_room (Nat.le_of_ble_eq_true rfl)) dX6_tell_38 ⟨Nat.zero_le _, Nat.zero_le _⟩) hP hDD hS [0] rfl (fun _ => rfl) (fun r_38 u_38 H locs hw_38 hP hS => ?_)
      have hP : va_P (dC, dI) vwCl [(bx, .inr (3, [.int 2, .int (nI k), .int (nI sd), .int tI, .int wI, .int cI, .ref bl, .ref ba, .ref bt, .ref bg, .ref be, .ref bf, .ref bw, .ref bs, .ref bm, .ref bn, .ref bb, .ref bu, .ref bh])), (ba, .inl (cyI, 32, .inl Af))] H := hP
      exact W.iret (v := r_38) hx hb hr (fun t ht hW => ⟨⟨_, (2, nI k, nI sd, tI, wI, cI), rfl, Or.inr (Or.inl ⟨rfl, ⟨mj, hmj, rfl⟩, fun h => c_25 h.1⟩), zh ht hP⟩, hS.F ht⟩) hS.2.2 dX6_tell_41
    · skip
      refine lv_aload_n hx hb dX6_tell_28 rfl (lv_at hl 0 rfl) ?_
      refine va_get (D := (dC, dI)) (ci := 3) (v := .int tI) (C := RX6) (T := TX6) (N := 19) hx hb hts hinX6 hown hK hP 0 rfl rfl 3 (by decide) (hts (.fieldLink RX6 9 "RoyalUrTableModel" "told" "I") (List.mem_of_getElem? (i := 3) rfl)) (fun _ h9 => h9) rfl dX6_tell_29 ?_
      refine lv_iconst (v := -1) hx hb dX6_tell_32 (by decide) ?_
      refine lv_icmp_eq (tgt := 42) hx hb dX6_tell_33 (by decide) (fun c_33 => ?_) (fun c_33 => ?_)
      · skip
        refine lv_aload_n hx hb dX6_tell_42 rfl (lv_at hl 0 rfl) ?_
        refine lv_dup hx hb dX6_tell_43 rfl ?_
        refine va_get (D := (dC, dI)) (ci := 3) (v := .int cI) (C := RX6) (T := TX6) (N := 19) hx hb hts hinX6 hown hK hP 0 rfl rfl 5 (by decide) (hts (.fieldLink RX6 140 "RoyalUrTableModel" "count" "I") (List.mem_of_getElem? (i := 4) rfl)) (fun _ h9 => h9) rfl dX6_tell_44 ?_
        refine lv_iconst (v := 1) hx hb dX6_tell_47 (by decide) ?_
        refine lv_iadd hx hb dX6_tell_48 ?_
        refine va_put (D := (dC, dI)) (ci := 3) (v := .int (cI + 1)) (ty := .int) (C := RX6) (T := TX6) (N := 19) hx hb hts hinX6 tyX6 tyX6_ok nmX6 hown hK hP (hDD.va rfl) hS 0 rfl rfl 5 (by decide) (hts (.fieldLink RX6 140 "RoyalUrTableModel" "count" "I") (List.mem_of_getElem? (i := 4) rfl)) (fun _ h9 => h9) rfl (by decide +kernel) rfl rfl (Nat.le_of_ble_eq_true rfl) dX6_tell_49 (fun H locs hP hD9 hS => ?_)
        have hP : va_P (dC, dI) vwCl [(bx, .inr (3, [.int 0, .int (nI k), .int (nI sd), .int tI, .int wI, .int (cI + 1), .ref bl, .ref ba, .ref bt, .ref bg, .ref be, .ref bf, .ref bw, .ref bs, .ref bm, .ref bn, .ref bb, .ref bu, .ref bh])), (ba, .inl (cyI, 32, .inl Af))] H := hP
        refine lv_aload_n hx hb dX6_tell_52 rfl (lv_at hl 0 rfl) ?_
        refine lv_iload_n hx hb dX6_tell_53 rfl (lv_at hl 1 rfl) ?_
        refine zro_i (va_runV (As := [.int (nI mj)]) (rest := []) ⟨hx, hb, hml, hown, hts⟩ (c_X6_countMoves l dC dI cyI cyJ k bx bl ba bt bg be bf bw bs bm bn bb bu bh 0 tI wI (cI + 1) Af sd own oth mj hsd hrow (by omega)) (cwV 1 hts gX6_tell_X6_countMoves rfl rfl rfl (by decide +kernel) ⟨Nat.le_of_ble_eq_true rfl, Nat.le_of_ble_eq_true rfl⟩) (zPc_V (ci := 3) (q0 := 0) zB_T hP hK rfl rfl [0, 1] rfl (fun _ _ _ => trivial)) rfl rfl hl.1 rfl (lv_room (Nat.le_of_ble_eq_true rfl)) dX6_tell_54 ⟨Nat.zero_le _, Nat.zero_le _⟩) hP hS (fun H locs hP hS => ?_)
        have hnl := zNum_le own oth mj 15
        refine lv_istore_n (lv' := [(2, .int (nI (zNum own oth mj 15))), (0, .ref bx), (1, .int (nI mj))]) hx hb dX6_tell_57 rfl hl (by decide) rfl (fun ls hl => ?_)
        refine lv_aload_n hx hb dX6_tell_58 rfl (lv_at hl 1 rfl) ?_
        refine lv_iload_n hx hb dX6_tell_59 rfl (lv_at hl 0 rfl) ?_
        refine lv_if_le (tgt := 67) hx hb dX6_tell_60 (by decide) (fun c_60 => ?_) (fun c_60 => ?_)
        · skip
          have c_60 : (zNum own oth mj 15) ≤ 0 := (nI_leI (a := zNum own oth mj 15) (b := 0) (by omega) (by omega)).mp c_60
          refine lv_iconst (v := -1) hx hb dX6_tell_67 (by decide) ?_
          refine va_put (D := (dC, dI)) (ci := 3) (v := .int (-1)) (ty := .int) (C := RX6) (T := TX6) (N := 19) hx hb hts hinX6 tyX6 tyX6_ok nmX6 hown hK hP (hDD.va rfl) hS 0 rfl rfl 3 (by decide) (hts (.fieldLink RX6 9 "RoyalUrTableModel" "told" "I") (List.mem_of_getElem? (i := 3) rfl)) (fun _ h9 => h9) rfl (by decide +kernel) rfl rfl (Nat.le_of_ble_eq_true rfl) dX6_tell_68 (fun H locs hP hD9 hS => ?_)
          have hP : va_P (dC, dI) vwCl [(bx, .inr (3, [.int 0, .int (nI k), .int (nI sd), .int (-1), .int wI, .int (cI + 1), .ref bl, .ref ba, .ref bt, .ref bg, .ref be, .ref bf, .ref bw, .ref bs, .ref bm, .ref bn, .ref bb, .ref bu, .ref bh])), (ba, .inl (cyI, 32, .inl Af))] H := hP
          refine lv_aload_n hx hb dX6_tell_71 rfl (lv_at hl 1 rfl) ?_
          refine lv_iload_n hx hb dX6_tell_72 rfl (lv_at hl 0 rfl) ?_
          refine lv_if_le (tgt := 83) hx hb dX6_tell_73 (by decide) (fun c_73 => ?_) (fun c_73 => ?_)
          · skip
            have c_73 : (zNum own oth mj 15) ≤ 0 := (nI_leI (a := zNum own oth mj 15) (b := 0) (by omega) (by omega)).mp c_73
            refine lv_iconst (v := 1) hx hb dX6_tell_83 (by decide) ?_
            refine lv_aload_n hx hb dX6_tell_84 rfl (lv_at hl 1 rfl) ?_
            refine va_get (D := (dC, dI)) (ci := 3) (v := .int (nI sd)) (C := RX6) (T := TX6) (N := 19) hx hb hts hinX6 hown hK hP 0 rfl rfl 2 (by decide) (hts (.fieldLink RX6 128 "RoyalUrTableModel" "side" "I") (List.mem_of_getElem? (i := 5) rfl)) (fun _ h9 => h9) rfl dX6_tell_85 ?_
            refine lv_isub hx hb dX6_tell_88 ?_
            refine zz_i (y := nI (1 - sd)) (pk_sub (a := 1) (b := sd) (by omega)) ?_
            refine va_put (D := (dC, dI)) (ci := 3) (v := .int (nI (1 - sd))) (ty := .int) (C := RX6) (T := TX6) (N := 19) hx hb hts hinX6 tyX6 tyX6_ok nmX6 hown hK hP (hDD.va rfl) hS 0 rfl rfl 2 (by decide) (hts (.fieldLink RX6 128 "RoyalUrTableModel" "side" "I") (List.mem_of_getElem? (i := 5) rfl)) (fun _ h9 => h9) rfl (by decide +kernel) rfl rfl (Nat.le_of_ble_eq_true rfl) dX6_tell_89 (fun H locs hP hD9 hS => ?_)
            have hP : va_P (dC, dI) vwCl [(bx, .inr (3, [.int 0, .int (nI k), .int (nI (1 - sd)), .int (-1), .int wI, .int (cI + 1), .ref bl, .ref ba, .ref bt, .ref bg, .ref be, .ref bf, .ref bw, .ref bs, .ref bm, .ref bn, .ref bb, .ref bu, .ref bh])), (ba, .inl (cyI, 32, .inl Af))] H := hP
            refine lv_iload_n hx hb dX6_tell_92 rfl (lv_at hl 0 rfl) ?_
            exact W.iret (v := nI (zNum own oth mj 15)) hx hb hr (fun t ht hW => ⟨⟨_, (0, nI k, nI (1 - sd), -1, wI, cI + 1), rfl, Or.inr (Or.inr ⟨rfl, mj, hmj, rfl, c_25, c_33, rfl, (if_pos (by omega)).symm, (if_pos (by omega)).symm⟩), zh ht hP⟩, hS.F ht⟩) hS.2.2 dX6_tell_93
          · skip
            have c_73 : ¬ (zNum own oth mj 15) ≤ 0 := fun h9 => c_73 ((nI_leI (a := zNum own oth mj 15) (b := 0) (by omega) (by omega)).mpr h9)
            exact absurd (by omega) c_73
        · skip
          have c_60 : ¬ (zNum own oth mj 15) ≤ 0 := fun h9 => c_60 ((nI_leI (a := zNum own oth mj 15) (b := 0) (by omega) (by omega)).mpr h9)
          refine lv_iload_n hx hb dX6_tell_63 rfl (lv_at hl 2 rfl) ?_
          refine lv_goto (tgt := 68) hx hb dX6_tell_64 (by decide) ?_
          refine va_put (D := (dC, dI)) (ci := 3) (v := .int (nI mj)) (ty := .int) (C := RX6) (T := TX6) (N := 19) hx hb hts hinX6 tyX6 tyX6_ok nmX6 hown hK hP (hDD.va rfl) hS 0 rfl rfl 3 (by decide) (hts (.fieldLink RX6 9 "RoyalUrTableModel" "told" "I") (List.mem_of_getElem? (i := 3) rfl)) (fun _ h9 => h9) rfl (by decide +kernel) rfl rfl (Nat.le_of_ble_eq_true rfl) dX6_tell_68 (fun H locs hP hD9 hS => ?_)
          have hP : va_P (dC, dI) vwCl [(bx, .inr (3, [.int 0, .int (nI k), .int (nI sd), .int (nI mj), .int wI, .int (cI + 1), .ref bl, .ref ba, .ref bt, .ref bg, .ref be, .ref bf, .ref bw, .ref bs, .ref bm, .ref bn, .ref bb, .ref bu, .ref bh])), (ba, .inl (cyI, 32, .inl Af))] H := hP
          refine lv_aload_n hx hb dX6_tell_71 rfl (lv_at hl 1 rfl) ?_
          refine lv_iload_n hx hb dX6_tell_72 rfl (lv_at hl 0 rfl) ?_
          refine lv_if_le (tgt := 83) hx hb dX6_tell_73 (by decide) (fun c_73 => ?_) (fun c_73 => ?_)
          · skip
            have c_73 : (zNum own oth mj 15) ≤ 0 := (nI_leI (a := zNum own oth mj 15) (b := 0) (by omega) (by omega)).mp c_73
            exact absurd c_73 (by omega)
          · skip
            have c_73 : ¬ (zNum own oth mj 15) ≤ 0 := fun h9 => c_73 ((nI_leI (a := zNum own oth mj 15) (b := 0) (by omega) (by omega)).mpr h9)
            refine lv_aload_n hx hb dX6_tell_76 rfl (lv_at hl 1 rfl) ?_
            refine va_get (D := (dC, dI)) (ci := 3) (v := .int (nI sd)) (C := RX6) (T := TX6) (N := 19) hx hb hts hinX6 hown hK hP 0 rfl rfl 2 (by decide) (hts (.fieldLink RX6 128 "RoyalUrTableModel" "side" "I") (List.mem_of_getElem? (i := 5) rfl)) (fun _ h9 => h9) rfl dX6_tell_77 ?_
            refine lv_goto (tgt := 89) hx hb dX6_tell_80 (by decide) ?_
            refine va_put (D := (dC, dI)) (ci := 3) (v := .int (nI sd)) (ty := .int) (C := RX6) (T := TX6) (N := 19) hx hb hts hinX6 tyX6 tyX6_ok nmX6 hown hK hP (hDD.va rfl) hS 0 rfl rfl 2 (by decide) (hts (.fieldLink RX6 128 "RoyalUrTableModel" "side" "I") (List.mem_of_getElem? (i := 5) rfl)) (fun _ h9 => h9) rfl (by decide +kernel) rfl rfl (Nat.le_of_ble_eq_true rfl) dX6_tell_89 (fun H locs hP hD9 hS => ?_)
            have hP : va_P (dC, dI) vwCl [(bx, .inr (3, [.int 0, .int (nI k), .int (nI sd), .int (nI mj), .int wI, .int (cI + 1), .ref bl, .ref ba, .ref bt, .ref bg, .ref be, .ref bf, .ref bw, .ref bs, .ref bm, .ref bn, .ref bb, .ref bu, .ref bh])), (ba, .inl (cyI, 32, .inl Af))] H := hP
            refine lv_iload_n hx hb dX6_tell_92 rfl (lv_at hl 0 rfl) ?_
            exact W.iret (v := nI (zNum own oth mj 15)) hx hb hr (fun t ht hW => ⟨⟨_, (0, nI k, nI sd, nI mj, wI, cI + 1), rfl, Or.inr (Or.inr ⟨rfl, mj, hmj, rfl, c_25, c_33, rfl, (if_neg (by omega)).symm, (if_neg (by omega)).symm⟩), zh ht hP⟩, hS.F ht⟩) hS.2.2 dX6_tell_93
      · skip
        refine lv_aload_n hx hb dX6_tell_36 rfl (lv_at hl 0 rfl) ?_
        refine lv_iconst (v := 2) hx hb dX6_tell_37 (by decide) ?_
        refine zrw_i (w1 := fun _ : Unit => [(bx, .inr (3, [.int 2, .int (nI k), .int (nI sd), .int tI, .int wI, .int cI, .ref bl, .ref ba, .ref bt, .ref bg, .ref be, .ref bf, .ref bw, .ref bs, .ref bm, .ref bn, .ref bb, .ref bu, .ref bh]))]) (al := [bx]) (va_runV (As := [.int 2]) (rest := []) ⟨hx, hb, hml, hown, hts⟩ (c_X6_fails l dC dI cyI cyJ k bx bl ba bt bg be bf bw bs bm bn bb bu bh 0 (nI sd) tI wI cI 2 (z_nd hDD.1 [0] (by decide) rfl)) (cwV 1 hts gX6_tell_X6_fails rfl rfl rfl (by decide +kernel) ⟨Nat.le_of_ble_eq_true rfl, Nat.le_of_ble_eq_true rfl⟩) (zPc_V (ci := 3) (q0 := 0) zB_T hP hK rfl rfl [0] rfl (fun _ _ _ => trivial)) rfl rfl hl.1 rfl (lv_room (Nat.le_of_ble_eq_true rfl)) dX6_tell_38 ⟨Nat.zero_le _, Nat.zero_le _⟩) hP hDD hS [0] rfl (fun _ => rfl) (fun r_38 u_38 H locs hw_38 hP hS => ?_)
        have hP : va_P (dC, dI) vwCl [(bx, .inr (3, [.int 2, .int (nI k), .int (nI sd), .int tI, .int wI, .int cI, .ref bl, .ref ba, .ref bt, .ref bg, .ref be, .ref bf, .ref bw, .ref bs, .ref bm, .ref bn, .ref bb, .ref bu, .ref bh])), (ba, .inl (cyI, 32, .inl Af))] H := hP
        exact W.iret (v := r_38) hx hb hr (fun t ht hW => ⟨⟨_, (2, nI k, nI sd, tI, wI, cI), rfl, Or.inr (Or.inl ⟨rfl, ⟨mj, hmj, rfl⟩, fun h => c_33 h.2⟩), zh ht hP⟩, hS.F ht⟩) hS.2.2 dX6_tell_41
  · skip
    have c_11 := bI_0.mp c_11
    refine lv_aload_n hx hb dX6_tell_14 rfl (lv_at hl 0 rfl) ?_
    refine lv_iconst (v := 1) hx hb dX6_tell_15 (by decide) ?_
    refine zrw_i (w1 := fun _ : Unit => [(bx, .inr (3, [.int 1, .int (nI k), .int (nI sd), .int tI, .int wI, .int cI, .ref bl, .ref ba, .ref bt, .ref bg, .ref be, .ref bf, .ref bw, .ref bs, .ref bm, .ref bn, .ref bb, .ref bu, .ref bh]))]) (al := [bx]) (va_runV (As := [.int 1]) (rest := []) ⟨hx, hb, hml, hown, hts⟩ (c_X6_fails l dC dI cyI cyJ k bx bl ba bt bg be bf bw bs bm bn bb bu bh 0 (nI sd) tI wI cI 1 (z_nd hDD.1 [0] (by decide) rfl)) (cwV 1 hts gX6_tell_X6_fails rfl rfl rfl (by decide +kernel) ⟨Nat.le_of_ble_eq_true rfl, Nat.le_of_ble_eq_true rfl⟩) (zPc_V (ci := 3) (q0 := 0) zB_T hP hK rfl rfl [0] rfl (fun _ _ _ => trivial)) rfl rfl hl.1 rfl (lv_room (Nat.le_of_ble_eq_true rfl)) dX6_tell_16 ⟨Nat.zero_le _, Nat.zero_le _⟩) hP hDD hS [0] rfl (fun _ => rfl) (fun r_16 u_16 H locs hw_16 hP hS => ?_)
    have hP : va_P (dC, dI) vwCl [(bx, .inr (3, [.int 1, .int (nI k), .int (nI sd), .int tI, .int wI, .int cI, .ref bl, .ref ba, .ref bt, .ref bg, .ref be, .ref bf, .ref bw, .ref bs, .ref bm, .ref bn, .ref bb, .ref bu, .ref bh])), (ba, .inl (cyI, 32, .inl Af))] H := hP
    exact W.iret (v := r_16) hx hb hr (fun t ht hW => ⟨⟨_, (1, nI k, nI sd, tI, wI, cI), rfl, Or.inl ⟨rfl, zin_bf (n := 4) (by decide) c_11⟩, zh ht hP⟩, hS.F ht⟩) hS.2.2 dX6_tell_19

set_option maxHeartbeats 4000000 in
set_option maxRecDepth 100000 in
theorem c_X6_move (l : Launch) (dC : Nat → ClassId) (dI : Nat → Nat → Nat) (cyI cyJ : ClassId) (k : Nat) (bx bl ba bt bg be bf bw bs bm bn bb bu bh : Nat) (thr tI wI cI : Int32) (Af lf : Nat → Int32) (sd own oth mm : Nat) (hsd : sd ≤ 1) (hO : zok k own) (hQ : zok k oth) (hrow : zRow Af 0 sd own oth) (hmk : zmk tI mm) (hmm : mm ≤ 4) (v : Int32) (hnd : [bx, ba, bl].Nodup) : Met l yX6_move wsX6_move ({ frames := 3, cells := 0, slots := 0, locals := 69 }) (zPc [.ref bx, .int v] (dC, dI) vwCl [(cyI, .int), (cyJ, .long)] [(bx, .inr (3, [.int thr, .int (nI k), .int (nI sd), .int tI, .int wI, .int cI, .ref bl, .ref ba, .ref bt, .ref bg, .ref be, .ref bf, .ref bw, .ref bs, .ref bm, .ref bn, .ref bb, .ref bu, .ref bh])), (ba, .inl (cyI, 32, .inl Af)), (bl, .inl (cyI, 2, .inl lf))] (fun _ => True)) (va_Qi (fun (r : Int32) (u : (Int32 × Int32 × Int32 × Int32 × Int32 × Int32) × (Nat → Int32) × (Nat → Int32)) => (u.1 = (1, nI k, nI sd, tI, wI, cI) ∧ u.2.1 = Af ∧ u.2.2 = lf ∧ ¬ (0 ≤ v ∧ v ≤ 14)) ∨ (u.1 = (2, nI k, nI sd, tI, wI, cI) ∧ u.2.1 = Af ∧ u.2.2 = lf ∧ ∃ fr, fr ≤ 14 ∧ v = nI fr ∧ zcm own oth fr mm = false) ∨ (u.1 = (0, nI k, u.1.2.2.1, -1, u.1.2.2.2.2.1, cI) ∧ ∃ fr, fr ≤ 14 ∧ v = nI fr ∧ zcm own oth fr mm = true ∧ r = nI (fr + mm) ∧ u.1.2.2.1 = (if zros (fr + mm) = true then nI sd else nI (1 - sd)) ∧ u.1.2.2.2.2.1 = (if zhome (zsh own fr (fr + mm)) = true then nI sd else -1) ∧ zRow u.2.1 0 sd (zsh own fr (fr + mm)) (if ztk oth (fr + mm) = true then zsh oth (fr + mm) 0 else oth) ∧ u.2.2 (1 - sd) = lf (1 - sd) + bI (ztk oth (fr + mm)) ∧ u.2.2 sd = lf sd)) (fun (u : (Int32 × Int32 × Int32 × Int32 × Int32 × Int32) × (Nat → Int32) × (Nat → Int32)) t => va_P (dC, dI) vwCl ([(bx, .inr (3, [.int u.1.1, .int u.1.2.1, .int u.1.2.2.1, .int u.1.2.2.2.1, .int u.1.2.2.2.2.1, .int u.1.2.2.2.2.2, .ref bl, .ref ba, .ref bt, .ref bg, .ref be, .ref bf, .ref bw, .ref bs, .ref bm, .ref bn, .ref bb, .ref bu, .ref bh])), (ba, .inl (cyI, 32, .inl u.2.1)), (bl, .inl (cyI, 2, .inl u.2.2))]) t.heap) (zA [bx, ba, bl])) 0 0 (zA [bx, ba, bl]) := by
  refine Met.ofW (cc := cX6_move) (maxL := 3) (ret := (some .int)) (by decide) rfl ?_
  intro p e s m args below meth c s₁ B hml hv
  obtain ⟨rfl, hP, hK, hX⟩ := hv
  have hx := B.exec
  have hb := B.bytes
  have hr := B.returns
  have hts := atoms_spec (ws := wsX6_move) B.pre
  have hown : s.vm.findClass RX6 = some m.cls := findClass_of_methodNamed B.named
  have hlocks := B.notSynchronized
  have hinX6 : ∀ w ∈ wsX60, w ∈ wsX6_move := by decide +kernel
  have hl := lv_entry ([.ref bx, .int v]) (n := 3) (Nat.le_of_ble_eq_true rfl)
  rw [lg_entry_eq]
  generalize (lg_sl ([.ref bx, .int v]) ++ List.replicate (3 - (lg_sl ([.ref bx, .int v])).length) Slot.unset).toArray = ls at hl ⊢
  have hl : lv_has ls 3 [(0, .ref bx), (1, .int v)] := hl
  have hS : va_S (zA [bx, ba, bl]) s.heap s.heap [] := va_S.rf
  have hDD : zD (zA [bx, ba, bl]) [bx, ba, bl] := ⟨hnd, fun _ h => h⟩
  refine lv_aload_n hx hb dX6_move_0 rfl (lv_at hl 0 rfl) ?_
  refine lv_iconst (v := 0) hx hb dX6_move_1 (by decide) ?_
  refine va_put (D := (dC, dI)) (ci := 3) (v := .int 0) (ty := .int) (C := RX6) (T := TX6) (N := 19) hx hb hts hinX6 tyX6 tyX6_ok nmX6 hown hK hP (hDD.va rfl) hS 0 rfl rfl 0 (by decide) (hts (.fieldLink RX6 64 "RoyalUrTableModel" "thrown" "I") (List.mem_of_getElem? (i := 1) rfl)) (fun _ h9 => h9) rfl (by decide +kernel) rfl rfl (Nat.le_of_ble_eq_true rfl) dX6_move_2 (fun H locs hP hD9 hS => ?_)
  have hP : va_P (dC, dI) vwCl [(bx, .inr (3, [.int 0, .int (nI k), .int (nI sd), .int tI, .int wI, .int cI, .ref bl, .ref ba, .ref bt, .ref bg, .ref be, .ref bf, .ref bw, .ref bs, .ref bm, .ref bn, .ref bb, .ref bu, .ref bh])), (ba, .inl (cyI, 32, .inl Af)), (bl, .inl (cyI, 2, .inl lf))] H := hP
  refine lv_iload_n hx hb dX6_move_5 rfl (lv_at hl 1 rfl) ?_
  refine lv_iconst (v := 0) hx hb dX6_move_6 (by decide) ?_
  refine lv_bipush (v := 14) hx hb dX6_move_7 (by decide) ?_
  refine zro_i (va_runS (As := [.int v, .int 0, .int 14]) (rest := []) ⟨hx, hb, hml, hown, hts⟩ (c_X6_in l v 0 14) (va_cwS 3 hts gX6_move_X6_in rfl rfl rfl (by decide +kernel) ⟨Nat.le_of_ble_eq_true rfl, Nat.le_of_ble_eq_true rfl⟩) zPu rfl rfl hl.1 rfl (lv_room (Nat.le_of_ble_eq_true rfl)) dX6_move_9 ⟨Nat.zero_le _, Nat.zero_le _⟩) hP hS (fun H locs hP hS => ?_)
  refine lv_if_ne (tgt := 21) hx hb dX6_move_12 (by decide) (fun c_12 => ?_) (fun c_12 => ?_)
  · skip
    have c_12 := bI_1.mp c_12
    obtain ⟨fr, hfr, rfl⟩ := zin_b (n := 14) (by decide) c_12
    refine lv_aload_n hx hb dX6_move_21 rfl (lv_at hl 0 rfl) ?_
    refine va_get (D := (dC, dI)) (ci := 3) (v := .int tI) (C := RX6) (T := TX6) (N := 19) hx hb hts hinX6 hown hK hP 0 rfl rfl 3 (by decide) (hts (.fieldLink RX6 9 "RoyalUrTableModel" "told" "I") (List.mem_of_getElem? (i := 2) rfl)) (fun _ h9 => h9) rfl dX6_move_22 ?_
    refine lv_iconst (v := -1) hx hb dX6_move_25 (by decide) ?_
    refine lv_icmp_eq (tgt := 49) hx hb dX6_move_26 (by decide) (fun c_26 => ?_) (fun c_26 => ?_)
    · skip
      refine lv_aload_n hx hb dX6_move_49 rfl (lv_at hl 0 rfl) ?_
      refine lv_iconst (v := 2) hx hb dX6_move_50 (by decide) ?_
      refine zrw_i (w1 := fun _ : Unit => [(bx, .inr (3, [.int 2, .int (nI k), .int (nI sd), .int tI, .int wI, .int cI, .ref bl, .ref ba, .ref bt, .ref bg, .ref be, .ref bf, .ref bw, .ref bs, .ref bm, .ref bn, .ref bb, .ref bu, .ref bh]))]) (al := [bx]) (va_runV (As := [.int 2]) (rest := []) ⟨hx, hb, hml, hown, hts⟩ (c_X6_fails l dC dI cyI cyJ k bx bl ba bt bg be bf bw bs bm bn bb bu bh 0 (nI sd) tI wI cI 2 (z_nd hDD.1 [0] (by decide) rfl)) (cwV 1 hts gX6_move_X6_fails rfl rfl rfl (by decide +kernel) ⟨Nat.le_of_ble_eq_true rfl, Nat.le_of_ble_eq_true rfl⟩) (zPc_V (ci := 3) (q0 := 0) zB_T hP hK rfl rfl [0] rfl (fun _ _ _ => trivial)) rfl rfl hl.1 rfl (lv_room (Nat.le_of_ble_eq_true rfl)) dX6_move_51 ⟨Nat.zero_le _, Nat.zero_le _⟩) hP hDD hS [0] rfl (fun _ => rfl) (fun r_51 u_51 H locs hw_51 hP hS => ?_)
      have hP : va_P (dC, dI) vwCl [(bx, .inr (3, [.int 2, .int (nI k), .int (nI sd), .int tI, .int wI, .int cI, .ref bl, .ref ba, .ref bt, .ref bg, .ref be, .ref bf, .ref bw, .ref bs, .ref bm, .ref bn, .ref bb, .ref bu, .ref bh])), (ba, .inl (cyI, 32, .inl Af)), (bl, .inl (cyI, 2, .inl lf))] H := hP
      exact W.iret (v := r_51) hx hb hr (fun t ht hW => ⟨⟨_, ((2, nI k, nI sd, tI, wI, cI), Af, lf), rfl, Or.inr (Or.inl ⟨rfl, rfl, rfl, fr, hfr, rfl, (by rw [zmk_0 hmk hmm c_26]; exact zcm_0 _ _ _)⟩), zh ht hP⟩, hS.F ht⟩) hS.2.2 dX6_move_54
    · skip
      refine lv_aload_n hx hb dX6_move_29 rfl (lv_at hl 0 rfl) ?_
      refine va_get (D := (dC, dI)) (ci := 3) (v := .ref ba) (C := RX6) (T := TX6) (N := 19) hx hb hts hinX6 hown hK hP 0 rfl rfl 7 (by decide) (hts (.fieldLink RX6 20 "RoyalUrTableModel" "at" "[I") (List.mem_of_getElem? (i := 3) rfl)) (fun _ h9 => h9) rfl dX6_move_30 ?_
      refine lv_iconst (v := 0) hx hb dX6_move_33 (by decide) ?_
      refine lv_aload_n hx hb dX6_move_34 rfl (lv_at hl 0 rfl) ?_
      refine va_get (D := (dC, dI)) (ci := 3) (v := .int (nI sd)) (C := RX6) (T := TX6) (N := 19) hx hb hts hinX6 hown hK hP 0 rfl rfl 2 (by decide) (hts (.fieldLink RX6 128 "RoyalUrTableModel" "side" "I") (List.mem_of_getElem? (i := 4) rfl)) (fun _ h9 => h9) rfl dX6_move_35 ?_
      refine lv_iload_n hx hb dX6_move_38 rfl (lv_at hl 1 rfl) ?_
      refine lv_aload_n hx hb dX6_move_39 rfl (lv_at hl 0 rfl) ?_
      refine va_get (D := (dC, dI)) (ci := 3) (v := .int tI) (C := RX6) (T := TX6) (N := 19) hx hb hts hinX6 hown hK hP 0 rfl rfl 3 (by decide) (hts (.fieldLink RX6 9 "RoyalUrTableModel" "told" "I") (List.mem_of_getElem? (i := 2) rfl)) (fun _ h9 => h9) rfl dX6_move_40 ?_
      refine zz_i (y := nI mm) (zmk_ne hmk c_26) ?_
      refine zro_i (va_runS (As := [.ref ba, .int 0, .int (nI sd), .int (nI fr), .int (nI mm)]) (rest := []) ⟨hx, hb, hml, hown, hts⟩ (c_X6_canMove l dC dI cyI cyJ ba 32 (by omega) Af 0 sd own oth fr mm (by omega) hsd hrow (by omega) hmm) (va_cwS 5 hts gX6_move_X6_canMove rfl rfl rfl (by decide +kernel) ⟨Nat.le_of_ble_eq_true rfl, Nat.le_of_ble_eq_true rfl⟩) (zPc_S zB_T hP hK [1] rfl (fun _ _ _ => trivial)) rfl rfl hl.1 rfl (lv_room (Nat.le_of_ble_eq_true rfl)) dX6_move_43 ⟨Nat.zero_le _, Nat.zero_le _⟩) hP hS (fun H locs hP hS => ?_)
      refine lv_if_ne (tgt := 55) hx hb dX6_move_46 (by decide) (fun c_46 => ?_) (fun c_46 => ?_)
      · skip
        have c_46 := bI_1.mp c_46
        obtain ⟨hm0, hd0, hto⟩ := zcm_spec c_46
        have hO2 : zok k (zsh own fr (fr + mm)) := zok_sh hO hd0 (by omega) (by omega) (by omega)
        have hg0 := dg_lt (zsh own fr (fr + mm)) 15
        have hk4 := hO.1
        refine lv_aload_n hx hb dX6_move_55 rfl (lv_at hl 0 rfl) ?_
        refine va_get (D := (dC, dI)) (ci := 3) (v := .ref bl) (C := RX6) (T := TX6) (N := 19) hx hb hts hinX6 hown hK hP 0 rfl rfl 6 (by decide) (hts (.fieldLink RX6 16 "RoyalUrTableModel" "lost" "[I") (List.mem_of_getElem? (i := 5) rfl)) (fun _ h9 => h9) rfl dX6_move_56 ?_
        refine lv_iconst (v := 1) hx hb dX6_move_59 (by decide) ?_
        refine lv_aload_n hx hb dX6_move_60 rfl (lv_at hl 0 rfl) ?_
        refine va_get (D := (dC, dI)) (ci := 3) (v := .int (nI sd)) (C := RX6) (T := TX6) (N := 19) hx hb hts hinX6 hown hK hP 0 rfl rfl 2 (by decide) (hts (.fieldLink RX6 128 "RoyalUrTableModel" "side" "I") (List.mem_of_getElem? (i := 4) rfl)) (fun _ h9 => h9) rfl dX6_move_61 ?_
        refine lv_isub hx hb dX6_move_64 ?_
        refine zz_i (y := nI (1 - sd)) (pk_sub (a := 1) (b := sd) (by omega)) ?_
        refine lv_dup2_11 hx hb dX6_move_65 rfl rfl ?_
        refine zi_iald hx hb hK hP 2 0 rfl rfl (j := 1 - sd) rfl (by omega) (by decide) dX6_move_66 ?_
        refine lv_aload_n hx hb dX6_move_67 rfl (lv_at hl 0 rfl) ?_
        refine va_get (D := (dC, dI)) (ci := 3) (v := .ref ba) (C := RX6) (T := TX6) (N := 19) hx hb hts hinX6 hown hK hP 0 rfl rfl 7 (by decide) (hts (.fieldLink RX6 20 "RoyalUrTableModel" "at" "[I") (List.mem_of_getElem? (i := 3) rfl)) (fun _ h9 => h9) rfl dX6_move_68 ?_
        refine lv_iconst (v := 0) hx hb dX6_move_71 (by decide) ?_
        refine lv_aload_n hx hb dX6_move_72 rfl (lv_at hl 0 rfl) ?_
        refine va_get (D := (dC, dI)) (ci := 3) (v := .int (nI sd)) (C := RX6) (T := TX6) (N := 19) hx hb hts hinX6 hown hK hP 0 rfl rfl 2 (by decide) (hts (.fieldLink RX6 128 "RoyalUrTableModel" "side" "I") (List.mem_of_getElem? (i := 4) rfl)) (fun _ h9 => h9) rfl dX6_move_73 ?_
        refine lv_iload_n hx hb dX6_move_76 rfl (lv_at hl 1 rfl) ?_
        refine lv_aload_n hx hb dX6_move_77 rfl (lv_at hl 0 rfl) ?_
        refine va_get (D := (dC, dI)) (ci := 3) (v := .int tI) (C := RX6) (T := TX6) (N := 19) hx hb hts hinX6 hown hK hP 0 rfl rfl 3 (by decide) (hts (.fieldLink RX6 9 "RoyalUrTableModel" "told" "I") (List.mem_of_getElem? (i := 2) rfl)) (fun _ h9 => h9) rfl dX6_move_78 ?_
        refine zz_i (y := nI mm) (zmk_ne hmk c_26) ?_
        refine zrw_i (w1 := fun u : Nat → Int32 => [(ba, .inl (cyI, 32, .inl u))]) (al := [ba]) (va_runS (As := [.ref ba, .int 0, .int (nI sd), .int (nI fr), .int (nI mm)]) (rest := [.int (lf (1 - sd)), .int (nI (1 - sd)), .ref bl]) ⟨hx, hb, hml, hown, hts⟩ (c_X6_shifts l dC dI cyI cyJ ba 32 (by omega) Af k 0 sd own oth fr mm (by omega) hsd hrow hO hQ (by omega) hmm c_46 (z_nd hDD.1 [1] (by decide) rfl)) (va_cwS 5 hts gX6_move_X6_shifts rfl rfl rfl (by decide +kernel) ⟨Nat.le_of_ble_eq_true rfl, Nat.le_of_ble_eq_true rfl⟩) (zPc_S zB_T hP hK [1] rfl (fun _ _ _ => trivial)) rfl rfl hl.1 rfl (lv_room (Nat.le_of_ble_eq_true rfl)) dX6_move_81 ⟨Nat.zero_le _, Nat.zero_le _⟩) hP hDD hS [1] rfl (fun _ => rfl) (fun r_81 u_81 H locs hw_81 hP hS => ?_)
        have hP : va_P (dC, dI) vwCl [(bx, .inr (3, [.int 0, .int (nI k), .int (nI sd), .int tI, .int wI, .int cI, .ref bl, .ref ba, .ref bt, .ref bg, .ref be, .ref bf, .ref bw, .ref bs, .ref bm, .ref bn, .ref bb, .ref bu, .ref bh])), (ba, .inl (cyI, 32, .inl u_81)), (bl, .inl (cyI, 2, .inl lf))] H := hP
        refine lv_iadd hx hb dX6_move_84 ?_
        refine zi_iast hx hb hK hP hDD hS 2 0 rfl rfl (j := 1 - sd) rfl (by omega) (by decide) dX6_move_85 (fun H locs hP hS => ?_)
        have hP : va_P (dC, dI) vwCl [(bx, .inr (3, [.int 0, .int (nI k), .int (nI sd), .int tI, .int wI, .int cI, .ref bl, .ref ba, .ref bt, .ref bg, .ref be, .ref bf, .ref bw, .ref bs, .ref bm, .ref bn, .ref bb, .ref bu, .ref bh])), (ba, .inl (cyI, 32, .inl u_81)), (bl, .inl (cyI, 2, .inl (upd lf (1 - sd) ((lf (1 - sd)) + r_81))))] H := hP
        have hlq : upd lf (1 - sd) (lf (1 - sd) + r_81) (1 - sd) = lf (1 - sd) + bI (ztk oth (fr + mm)) := pk_us.trans (by rw [hw_81.1])
        refine lv_iload_n hx hb dX6_move_86 rfl (lv_at hl 1 rfl) ?_
        refine lv_aload_n hx hb dX6_move_87 rfl (lv_at hl 0 rfl) ?_
        refine va_get (D := (dC, dI)) (ci := 3) (v := .int tI) (C := RX6) (T := TX6) (N := 19) hx hb hts hinX6 hown hK hP 0 rfl rfl 3 (by decide) (hts (.fieldLink RX6 9 "RoyalUrTableModel" "told" "I") (List.mem_of_getElem? (i := 2) rfl)) (fun _ h9 => h9) rfl dX6_move_88 ?_
        refine zz_i (y := nI mm) (zmk_ne hmk c_26) ?_
        refine lv_iadd hx hb dX6_move_91 ?_
        refine zz_i (y := nI (fr + mm)) (nI_add fr mm) ?_
        refine lv_istore_n (lv' := [(2, .int (nI (fr + mm))), (0, .ref bx), (1, .int (nI fr))]) hx hb dX6_move_92 rfl hl (by decide) rfl (fun ls hl => ?_)
        refine lv_aload_n hx hb dX6_move_93 rfl (lv_at hl 1 rfl) ?_
        refine lv_iconst (v := -1) hx hb dX6_move_94 (by decide) ?_
        refine va_put (D := (dC, dI)) (ci := 3) (v := .int (-1)) (ty := .int) (C := RX6) (T := TX6) (N := 19) hx hb hts hinX6 tyX6 tyX6_ok nmX6 hown hK hP (hDD.va rfl) hS 0 rfl rfl 3 (by decide) (hts (.fieldLink RX6 9 "RoyalUrTableModel" "told" "I") (List.mem_of_getElem? (i := 2) rfl)) (fun _ h9 => h9) rfl (by decide +kernel) rfl rfl (Nat.le_of_ble_eq_true rfl) dX6_move_95 (fun H locs hP hD9 hS => ?_)
        have hP : va_P (dC, dI) vwCl [(bx, .inr (3, [.int 0, .int (nI k), .int (nI sd), .int (-1), .int wI, .int cI, .ref bl, .ref ba, .ref bt, .ref bg, .ref be, .ref bf, .ref bw, .ref bs, .ref bm, .ref bn, .ref bb, .ref bu, .ref bh])), (ba, .inl (cyI, 32, .inl u_81)), (bl, .inl (cyI, 2, .inl (upd lf (1 - sd) ((lf (1 - sd)) + r_81))))] H := hP
        refine lv_aload_n hx hb dX6_move_98 rfl (lv_at hl 1 rfl) ?_
        refine lv_aload_n hx hb dX6_move_99 rfl (lv_at hl 1 rfl) ?_
        refine va_get (D := (dC, dI)) (ci := 3) (v := .ref ba) (C := RX6) (T := TX6) (N := 19) hx hb hts hinX6 hown hK hP 0 rfl rfl 7 (by decide) (hts (.fieldLink RX6 20 "RoyalUrTableModel" "at" "[I") (List.mem_of_getElem? (i := 3) rfl)) (fun _ h9 => h9) rfl dX6_move_100 ?_
        refine lv_bipush (v := 16) hx hb dX6_move_103 (by decide) ?_
        refine lv_aload_n hx hb dX6_move_105 rfl (lv_at hl 1 rfl) ?_
        refine va_get (D := (dC, dI)) (ci := 3) (v := .int (nI sd)) (C := RX6) (T := TX6) (N := 19) hx hb hts hinX6 hown hK hP 0 rfl rfl 2 (by decide) (hts (.fieldLink RX6 128 "RoyalUrTableModel" "side" "I") (List.mem_of_getElem? (i := 4) rfl)) (fun _ h9 => h9) rfl dX6_move_106 ?_
        refine lv_imul hx hb dX6_move_109 ?_
        refine zz_i (y := nI (16 * sd)) (pk_mul 16 sd) ?_
        refine lv_bipush (v := 15) hx hb dX6_move_110 (by decide) ?_
        refine lv_iadd hx hb dX6_move_112 ?_
        refine zz_i (y := nI (16 * sd + 15)) (nI_add (16 * sd) 15) ?_
        refine zi_iald hx hb hK hP 1 0 rfl rfl (j := 16 * sd + 15) rfl (by omega) (by decide) dX6_move_113 ?_
        refine zz_i (y := nI (dg (zsh own fr (fr + mm)) 15)) (by rw [show 16 * sd + 15 = 0 + 16 * sd + 15 by omega]; exact hw_81.2.1.1 15 (by omega)) ?_
        refine lv_aload_n hx hb dX6_move_114 rfl (lv_at hl 1 rfl) ?_
        refine va_get (D := (dC, dI)) (ci := 3) (v := .int (nI k)) (C := RX6) (T := TX6) (N := 19) hx hb hts hinX6 hown hK hP 0 rfl rfl 1 (by decide) (hts (.fieldLink RX6 90 "RoyalUrTableModel" "pieces" "I") (List.mem_of_getElem? (i := 6) rfl)) (fun _ h9 => h9) rfl dX6_move_115 ?_
        refine lv_icmp_ne (tgt := 128) hx hb dX6_move_118 (by decide) (fun c_118 => ?_) (fun c_118 => ?_)
        · skip
          have c_118 : ¬ (dg (zsh own fr (fr + mm)) 15) = k := fun h9 => c_118 ((nI_eq (a := dg (zsh own fr (fr + mm)) 15) (b := k) (by omega) (by omega)).mpr h9)
          refine lv_iconst (v := -1) hx hb dX6_move_128 (by decide) ?_
          refine va_put (D := (dC, dI)) (ci := 3) (v := .int (-1)) (ty := .int) (C := RX6) (T := TX6) (N := 19) hx hb hts hinX6 tyX6 tyX6_ok nmX6 hown hK hP (hDD.va rfl) hS 0 rfl rfl 4 (by decide) (hts (.fieldLink RX6 13 "RoyalUrTableModel" "won" "I") (List.mem_of_getElem? (i := 7) rfl)) (fun _ h9 => h9) rfl (by decide +kernel) rfl rfl (Nat.le_of_ble_eq_true rfl) dX6_move_129 (fun H locs hP hD9 hS => ?_)
          have hP : va_P (dC, dI) vwCl [(bx, .inr (3, [.int 0, .int (nI k), .int (nI sd), .int (-1), .int (-1), .int cI, .ref bl, .ref ba, .ref bt, .ref bg, .ref be, .ref bf, .ref bw, .ref bs, .ref bm, .ref bn, .ref bb, .ref bu, .ref bh])), (ba, .inl (cyI, 32, .inl u_81)), (bl, .inl (cyI, 2, .inl (upd lf (1 - sd) ((lf (1 - sd)) + r_81))))] H := hP
          refine lv_aload_n hx hb dX6_move_132 rfl (lv_at hl 1 rfl) ?_
          refine lv_iload_n hx hb dX6_move_133 rfl (lv_at hl 0 rfl) ?_
          refine zro_i (va_runS (As := [.int (nI (fr + mm))]) (rest := [.ref bx]) ⟨hx, hb, hml, hown, hts⟩ (c_X6_isRosette l (fr + mm) (by omega)) (va_cwS 1 hts gX6_move_X6_isRosette rfl rfl rfl (by decide +kernel) ⟨Nat.le_of_ble_eq_true rfl, Nat.le_of_ble_eq_true rfl⟩) zPu rfl rfl hl.1 rfl (lv_room (Nat.le_of_ble_eq_true rfl)) dX6_move_134 ⟨Nat.zero_le _, Nat.zero_le _⟩) hP hS (fun H locs hP hS => ?_)
          refine lv_if_eq (tgt := 147) hx hb dX6_move_137 (by decide) (fun c_137 => ?_) (fun c_137 => ?_)
          · skip
            have c_137 := bI_0.mp c_137
            refine lv_iconst (v := 1) hx hb dX6_move_147 (by decide) ?_
            refine lv_aload_n hx hb dX6_move_148 rfl (lv_at hl 1 rfl) ?_
            refine va_get (D := (dC, dI)) (ci := 3) (v := .int (nI sd)) (C := RX6) (T := TX6) (N := 19) hx hb hts hinX6 hown hK hP 0 rfl rfl 2 (by decide) (hts (.fieldLink RX6 128 "RoyalUrTableModel" "side" "I") (List.mem_of_getElem? (i := 4) rfl)) (fun _ h9 => h9) rfl dX6_move_149 ?_
            refine lv_isub hx hb dX6_move_152 ?_
            refine zz_i (y := nI (1 - sd)) (pk_sub (a := 1) (b := sd) (by omega)) ?_
            refine va_put (D := (dC, dI)) (ci := 3) (v := .int (nI (1 - sd))) (ty := .int) (C := RX6) (T := TX6) (N := 19) hx hb hts hinX6 tyX6 tyX6_ok nmX6 hown hK hP (hDD.va rfl) hS 0 rfl rfl 2 (by decide) (hts (.fieldLink RX6 128 "RoyalUrTableModel" "side" "I") (List.mem_of_getElem? (i := 4) rfl)) (fun _ h9 => h9) rfl (by decide +kernel) rfl rfl (Nat.le_of_ble_eq_true rfl) dX6_move_153 (fun H locs hP hD9 hS => ?_)
            have hP : va_P (dC, dI) vwCl [(bx, .inr (3, [.int 0, .int (nI k), .int (nI (1 - sd)), .int (-1), .int (-1), .int cI, .ref bl, .ref ba, .ref bt, .ref bg, .ref be, .ref bf, .ref bw, .ref bs, .ref bm, .ref bn, .ref bb, .ref bu, .ref bh])), (ba, .inl (cyI, 32, .inl u_81)), (bl, .inl (cyI, 2, .inl (upd lf (1 - sd) ((lf (1 - sd)) + r_81))))] H := hP
            refine lv_iload_n hx hb dX6_move_156 rfl (lv_at hl 0 rfl) ?_
            exact W.iret (v := nI (fr + mm)) hx hb hr (fun t ht hW => ⟨⟨_, ((0, nI k, nI (1 - sd), -1, -1, cI), u_81, upd lf (1 - sd) ((lf (1 - sd)) + r_81)), rfl, Or.inr (Or.inr ⟨rfl, fr, hfr, rfl, c_46, rfl, (if_neg (by rw [c_137]; decide)).symm, (if_neg (by rw [zhome_n hO2 c_118]; decide)).symm, hw_81.2.1, hlq, pk_un (by omega)⟩), zh ht hP⟩, hS.F ht⟩) hS.2.2 dX6_move_157
          · skip
            have c_137 := bI_1.mp c_137
            refine lv_aload_n hx hb dX6_move_140 rfl (lv_at hl 1 rfl) ?_
            refine va_get (D := (dC, dI)) (ci := 3) (v := .int (nI sd)) (C := RX6) (T := TX6) (N := 19) hx hb hts hinX6 hown hK hP 0 rfl rfl 2 (by decide) (hts (.fieldLink RX6 128 "RoyalUrTableModel" "side" "I") (List.mem_of_getElem? (i := 4) rfl)) (fun _ h9 => h9) rfl dX6_move_141 ?_
            refine lv_goto (tgt := 153) hx hb dX6_move_144 (by decide) ?_
            refine va_put (D := (dC, dI)) (ci := 3) (v := .int (nI sd)) (ty := .int) (C := RX6) (T := TX6) (N := 19) hx hb hts hinX6 tyX6 tyX6_ok nmX6 hown hK hP (hDD.va rfl) hS 0 rfl rfl 2 (by decide) (hts (.fieldLink RX6 128 "RoyalUrTableModel" "side" "I") (List.mem_of_getElem? (i := 4) rfl)) (fun _ h9 => h9) rfl (by decide +kernel) rfl rfl (Nat.le_of_ble_eq_true rfl) dX6_move_153 (fun H locs hP hD9 hS => ?_)
            have hP : va_P (dC, dI) vwCl [(bx, .inr (3, [.int 0, .int (nI k), .int (nI sd), .int (-1), .int (-1), .int cI, .ref bl, .ref ba, .ref bt, .ref bg, .ref be, .ref bf, .ref bw, .ref bs, .ref bm, .ref bn, .ref bb, .ref bu, .ref bh])), (ba, .inl (cyI, 32, .inl u_81)), (bl, .inl (cyI, 2, .inl (upd lf (1 - sd) ((lf (1 - sd)) + r_81))))] H := hP
            refine lv_iload_n hx hb dX6_move_156 rfl (lv_at hl 0 rfl) ?_
            exact W.iret (v := nI (fr + mm)) hx hb hr (fun t ht hW => ⟨⟨_, ((0, nI k, nI sd, -1, -1, cI), u_81, upd lf (1 - sd) ((lf (1 - sd)) + r_81)), rfl, Or.inr (Or.inr ⟨rfl, fr, hfr, rfl, c_46, rfl, (if_pos c_137).symm, (if_neg (by rw [zhome_n hO2 c_118]; decide)).symm, hw_81.2.1, hlq, pk_un (by omega)⟩), zh ht hP⟩, hS.F ht⟩) hS.2.2 dX6_move_157
        · skip
          have c_118 : (dg (zsh own fr (fr + mm)) 15) = k := (nI_eq (a := dg (zsh own fr (fr + mm)) 15) (b := k) (by omega) (by omega)).mp c_118
          refine lv_aload_n hx hb dX6_move_121 rfl (lv_at hl 1 rfl) ?_
          refine va_get (D := (dC, dI)) (ci := 3) (v := .int (nI sd)) (C := RX6) (T := TX6) (N := 19) hx hb hts hinX6 hown hK hP 0 rfl rfl 2 (by decide) (hts (.fieldLink RX6 128 "RoyalUrTableModel" "side" "I") (List.mem_of_getElem? (i := 4) rfl)) (fun _ h9 => h9) rfl dX6_move_122 ?_
          refine lv_goto (tgt := 129) hx hb dX6_move_125 (by decide) ?_
          refine va_put (D := (dC, dI)) (ci := 3) (v := .int (nI sd)) (ty := .int) (C := RX6) (T := TX6) (N := 19) hx hb hts hinX6 tyX6 tyX6_ok nmX6 hown hK hP (hDD.va rfl) hS 0 rfl rfl 4 (by decide) (hts (.fieldLink RX6 13 "RoyalUrTableModel" "won" "I") (List.mem_of_getElem? (i := 7) rfl)) (fun _ h9 => h9) rfl (by decide +kernel) rfl rfl (Nat.le_of_ble_eq_true rfl) dX6_move_129 (fun H locs hP hD9 hS => ?_)
          have hP : va_P (dC, dI) vwCl [(bx, .inr (3, [.int 0, .int (nI k), .int (nI sd), .int (-1), .int (nI sd), .int cI, .ref bl, .ref ba, .ref bt, .ref bg, .ref be, .ref bf, .ref bw, .ref bs, .ref bm, .ref bn, .ref bb, .ref bu, .ref bh])), (ba, .inl (cyI, 32, .inl u_81)), (bl, .inl (cyI, 2, .inl (upd lf (1 - sd) ((lf (1 - sd)) + r_81))))] H := hP
          refine lv_aload_n hx hb dX6_move_132 rfl (lv_at hl 1 rfl) ?_
          refine lv_iload_n hx hb dX6_move_133 rfl (lv_at hl 0 rfl) ?_
          refine zro_i (va_runS (As := [.int (nI (fr + mm))]) (rest := [.ref bx]) ⟨hx, hb, hml, hown, hts⟩ (c_X6_isRosette l (fr + mm) (by omega)) (va_cwS 1 hts gX6_move_X6_isRosette rfl rfl rfl (by decide +kernel) ⟨Nat.le_of_ble_eq_true rfl, Nat.le_of_ble_eq_true rfl⟩) zPu rfl rfl hl.1 rfl (lv_room (Nat.le_of_ble_eq_true rfl)) dX6_move_134 ⟨Nat.zero_le _, Nat.zero_le _⟩) hP hS (fun H locs hP hS => ?_)
          refine lv_if_eq (tgt := 147) hx hb dX6_move_137 (by decide) (fun c_137 => ?_) (fun c_137 => ?_)
          · skip
            have c_137 := bI_0.mp c_137
            refine lv_iconst (v := 1) hx hb dX6_move_147 (by decide) ?_
            refine lv_aload_n hx hb dX6_move_148 rfl (lv_at hl 1 rfl) ?_
            refine va_get (D := (dC, dI)) (ci := 3) (v := .int (nI sd)) (C := RX6) (T := TX6) (N := 19) hx hb hts hinX6 hown hK hP 0 rfl rfl 2 (by decide) (hts (.fieldLink RX6 128 "RoyalUrTableModel" "side" "I") (List.mem_of_getElem? (i := 4) rfl)) (fun _ h9 => h9) rfl dX6_move_149 ?_
            refine lv_isub hx hb dX6_move_152 ?_
            refine zz_i (y := nI (1 - sd)) (pk_sub (a := 1) (b := sd) (by omega)) ?_
            refine va_put (D := (dC, dI)) (ci := 3) (v := .int (nI (1 - sd))) (ty := .int) (C := RX6) (T := TX6) (N := 19) hx hb hts hinX6 tyX6 tyX6_ok nmX6 hown hK hP (hDD.va rfl) hS 0 rfl rfl 2 (by decide) (hts (.fieldLink RX6 128 "RoyalUrTableModel" "side" "I") (List.mem_of_getElem? (i := 4) rfl)) (fun _ h9 => h9) rfl (by decide +kernel) rfl rfl (Nat.le_of_ble_eq_true rfl) dX6_move_153 (fun H locs hP hD9 hS => ?_)
            have hP : va_P (dC, dI) vwCl [(bx, .inr (3, [.int 0, .int (nI k), .int (nI (1 - sd)), .int (-1), .int (nI sd), .int cI, .ref bl, .ref ba, .ref bt, .ref bg, .ref be, .ref bf, .ref bw, .ref bs, .ref bm, .ref bn, .ref bb, .ref bu, .ref bh])), (ba, .inl (cyI, 32, .inl u_81)), (bl, .inl (cyI, 2, .inl (upd lf (1 - sd) ((lf (1 - sd)) + r_81))))] H := hP
            refine lv_iload_n hx hb dX6_move_156 rfl (lv_at hl 0 rfl) ?_
            exact W.iret (v := nI (fr + mm)) hx hb hr (fun t ht hW => ⟨⟨_, ((0, nI k, nI (1 - sd), -1, nI sd, cI), u_81, upd lf (1 - sd) ((lf (1 - sd)) + r_81)), rfl, Or.inr (Or.inr ⟨rfl, fr, hfr, rfl, c_46, rfl, (if_neg (by rw [c_137]; decide)).symm, (if_pos ((zhome_iff hO2).mpr c_118)).symm, hw_81.2.1, hlq, pk_un (by omega)⟩), zh ht hP⟩, hS.F ht⟩) hS.2.2 dX6_move_157
          · skip
            have c_137 := bI_1.mp c_137
            refine lv_aload_n hx hb dX6_move_140 rfl (lv_at hl 1 rfl) ?_
            refine va_get (D := (dC, dI)) (ci := 3) (v := .int (nI sd)) (C := RX6) (T := TX6) (N := 19) hx hb hts hinX6 hown hK hP 0 rfl rfl 2 (by decide) (hts (.fieldLink RX6 128 "RoyalUrTableModel" "side" "I") (List.mem_of_getElem? (i := 4) rfl)) (fun _ h9 => h9) rfl dX6_move_141 ?_
            refine lv_goto (tgt := 153) hx hb dX6_move_144 (by decide) ?_
            refine va_put (D := (dC, dI)) (ci := 3) (v := .int (nI sd)) (ty := .int) (C := RX6) (T := TX6) (N := 19) hx hb hts hinX6 tyX6 tyX6_ok nmX6 hown hK hP (hDD.va rfl) hS 0 rfl rfl 2 (by decide) (hts (.fieldLink RX6 128 "RoyalUrTableModel" "side" "I") (List.mem_of_getElem? (i := 4) rfl)) (fun _ h9 => h9) rfl (by decide +kernel) rfl rfl (Nat.le_of_ble_eq_true rfl) dX6_move_153 (fun H locs hP hD9 hS => ?_)
            have hP : va_P (dC, dI) vwCl [(bx, .inr (3, [.int 0, .int (nI k), .int (nI sd), .int (-1), .int (nI sd), .int cI, .ref bl, .ref ba, .ref bt, .ref bg, .ref be, .ref bf, .ref bw, .ref bs, .ref bm, .ref bn, .ref bb, .ref bu, .ref bh])), (ba, .inl (cyI, 32, .inl u_81)), (bl, .inl (cyI, 2, .inl (upd lf (1 - sd) ((lf (1 - sd)) + r_81))))] H := hP
            refine lv_iload_n hx hb dX6_move_156 rfl (lv_at hl 0 rfl) ?_
            exact W.iret (v := nI (fr + mm)) hx hb hr (fun t ht hW => ⟨⟨_, ((0, nI k, nI sd, -1, nI sd, cI), u_81, upd lf (1 - sd) ((lf (1 - sd)) + r_81)), rfl, Or.inr (Or.inr ⟨rfl, fr, hfr, rfl, c_46, rfl, (if_pos c_137).symm, (if_pos ((zhome_iff hO2).mpr c_118)).symm, hw_81.2.1, hlq, pk_un (by omega)⟩), zh ht hP⟩, hS.F ht⟩) hS.2.2 dX6_move_157
      · skip
        have c_46 := bI_0.mp c_46
        refine lv_aload_n hx hb dX6_move_49 rfl (lv_at hl 0 rfl) ?_
        refine lv_iconst (v := 2) hx hb dX6_move_50 (by decide) ?_
        refine zrw_i (w1 := fun _ : Unit => [(bx, .inr (3, [.int 2, .int (nI k), .int (nI sd), .int tI, .int wI, .int cI, .ref bl, .ref ba, .ref bt, .ref bg, .ref be, .ref bf, .ref bw, .ref bs, .ref bm, .ref bn, .ref bb, .ref bu, .ref bh]))]) (al := [bx]) (va_runV (As := [.int 2]) (rest := []) ⟨hx, hb, hml, hown, hts⟩ (c_X6_fails l dC dI cyI cyJ k bx bl ba bt bg be bf bw bs bm bn bb bu bh 0 (nI sd) tI wI cI 2 (z_nd hDD.1 [0] (by decide) rfl)) (cwV 1 hts gX6_move_X6_fails rfl rfl rfl (by decide +kernel) ⟨Nat.le_of_ble_eq_true rfl, Nat.le_of_ble_eq_true rfl⟩) (zPc_V (ci := 3) (q0 := 0) zB_T hP hK rfl rfl [0] rfl (fun _ _ _ => trivial)) rfl rfl hl.1 rfl (lv_room (Nat.le_of_ble_eq_true rfl)) dX6_move_51 ⟨Nat.zero_le _, Nat.zero_le _⟩) hP hDD hS [0] rfl (fun _ => rfl) (fun r_51 u_51 H locs hw_51 hP hS => ?_)
        have hP : va_P (dC, dI) vwCl [(bx, .inr (3, [.int 2, .int (nI k), .int (nI sd), .int tI, .int wI, .int cI, .ref bl, .ref ba, .ref bt, .ref bg, .ref be, .ref bf, .ref bw, .ref bs, .ref bm, .ref bn, .ref bb, .ref bu, .ref bh])), (ba, .inl (cyI, 32, .inl Af)), (bl, .inl (cyI, 2, .inl lf))] H := hP
        exact W.iret (v := r_51) hx hb hr (fun t ht hW => ⟨⟨_, ((2, nI k, nI sd, tI, wI, cI), Af, lf), rfl, Or.inr (Or.inl ⟨rfl, rfl, rfl, fr, hfr, rfl, c_46⟩), zh ht hP⟩, hS.F ht⟩) hS.2.2 dX6_move_54
  · skip
    have c_12 := bI_0.mp c_12
    refine lv_aload_n hx hb dX6_move_15 rfl (lv_at hl 0 rfl) ?_
    refine lv_iconst (v := 1) hx hb dX6_move_16 (by decide) ?_
    refine zrw_i (w1 := fun _ : Unit => [(bx, .inr (3, [.int 1, .int (nI k), .int (nI sd), .int tI, .int wI, .int cI, .ref bl, .ref ba, .ref bt, .ref bg, .ref be, .ref bf, .ref bw, .ref bs, .ref bm, .ref bn, .ref bb, .ref bu, .ref bh]))]) (al := [bx]) (va_runV (As := [.int 1]) (rest := []) ⟨hx, hb, hml, hown, hts⟩ (c_X6_fails l dC dI cyI cyJ k bx bl ba bt bg be bf bw bs bm bn bb bu bh 0 (nI sd) tI wI cI 1 (z_nd hDD.1 [0] (by decide) rfl)) (cwV 1 hts gX6_move_X6_fails rfl rfl rfl (by decide +kernel) ⟨Nat.le_of_ble_eq_true rfl, Nat.le_of_ble_eq_true rfl⟩) (zPc_V (ci := 3) (q0 := 0) zB_T hP hK rfl rfl [0] rfl (fun _ _ _ => trivial)) rfl rfl hl.1 rfl (lv_room (Nat.le_of_ble_eq_true rfl)) dX6_move_17 ⟨Nat.zero_le _, Nat.zero_le _⟩) hP hDD hS [0] rfl (fun _ => rfl) (fun r_17 u_17 H locs hw_17 hP hS => ?_)
    have hP : va_P (dC, dI) vwCl [(bx, .inr (3, [.int 1, .int (nI k), .int (nI sd), .int tI, .int wI, .int cI, .ref bl, .ref ba, .ref bt, .ref bg, .ref be, .ref bf, .ref bw, .ref bs, .ref bm, .ref bn, .ref bb, .ref bu, .ref bh])), (ba, .inl (cyI, 32, .inl Af)), (bl, .inl (cyI, 2, .inl lf))] H := hP
    exact W.iret (v := r_17) hx hb hr (fun t ht hW => ⟨⟨_, ((1, nI k, nI sd, tI, wI, cI), Af, lf), rfl, Or.inl ⟨rfl, rfl, rfl, zin_bf (n := 14) (by decide) c_12⟩, zh ht hP⟩, hS.F ht⟩) hS.2.2 dX6_move_20

set_option maxHeartbeats 4000000 in
set_option maxRecDepth 100000 in
theorem c_X6_begin (l : Launch) (dC : Nat → ClassId) (dI : Nat → Nat → Nat) (cyI cyJ : ClassId) (pI : Int32) (bx bl ba bt bg be bf bw bs bm bn bb bu bh : Nat) (thr sI tI wI cI : Int32) (Af lf : Nat → Int32) (v : Int32) (hnd : [bx, ba, bl].Nodup) : Met l yX6_begin wsX6_begin ({ frames := 1, cells := 0, slots := 0, locals := 22 }) (zPc [.ref bx, .int v] (dC, dI) vwCl [(cyI, .int), (cyJ, .long)] [(bx, .inr (3, [.int thr, .int pI, .int sI, .int tI, .int wI, .int cI, .ref bl, .ref ba, .ref bt, .ref bg, .ref be, .ref bf, .ref bw, .ref bs, .ref bm, .ref bn, .ref bb, .ref bu, .ref bh])), (ba, .inl (cyI, 32, .inl Af)), (bl, .inl (cyI, 2, .inl lf))] (fun _ => True)) (va_Qv (fun (u : (Int32 × Int32 × Int32 × Int32 × Int32 × Int32) × (Nat → Int32) × (Nat → Int32)) => (∃ j, 1 ≤ j ∧ j ≤ 4 ∧ v = nI j ∧ u.1 = (0, nI j, 0, -1, -1, 0) ∧ zRow u.2.1 0 0 j j ∧ u.2.2 0 = 0 ∧ u.2.2 1 = 0) ∨ (u.1 = (1, pI, sI, tI, wI, cI) ∧ u.2.1 = Af ∧ u.2.2 = lf ∧ ¬ (1 ≤ v ∧ v ≤ 4))) (fun (u : (Int32 × Int32 × Int32 × Int32 × Int32 × Int32) × (Nat → Int32) × (Nat → Int32)) t => va_P (dC, dI) vwCl ([(bx, .inr (3, [.int u.1.1, .int u.1.2.1, .int u.1.2.2.1, .int u.1.2.2.2.1, .int u.1.2.2.2.2.1, .int u.1.2.2.2.2.2, .ref bl, .ref ba, .ref bt, .ref bg, .ref be, .ref bf, .ref bw, .ref bs, .ref bm, .ref bn, .ref bb, .ref bu, .ref bh])), (ba, .inl (cyI, 32, .inl u.2.1)), (bl, .inl (cyI, 2, .inl u.2.2))]) t.heap) (zA [bx, ba, bl])) 0 0 (zA [bx, ba, bl]) := by
  refine Met.ofW (cc := cX6_begin) (maxL := 2) (ret := none) (by decide) rfl ?_
  intro p e s m args below meth c s₁ B hml hv
  obtain ⟨rfl, hP, hK, hX⟩ := hv
  have hx := B.exec
  have hb := B.bytes
  have hr := B.returns
  have hts := atoms_spec (ws := wsX6_begin) B.pre
  have hown : s.vm.findClass RX6 = some m.cls := findClass_of_methodNamed B.named
  have hlocks := B.notSynchronized
  have hinX6 : ∀ w ∈ wsX60, w ∈ wsX6_begin := by decide +kernel
  have hl := lv_entry ([.ref bx, .int v]) (n := 2) (Nat.le_of_ble_eq_true rfl)
  rw [lg_entry_eq]
  generalize (lg_sl ([.ref bx, .int v]) ++ List.replicate (2 - (lg_sl ([.ref bx, .int v])).length) Slot.unset).toArray = ls at hl ⊢
  have hl : lv_has ls 2 [(0, .ref bx), (1, .int v)] := hl
  have hS : va_S (zA [bx, ba, bl]) s.heap s.heap [] := va_S.rf
  have hDD : zD (zA [bx, ba, bl]) [bx, ba, bl] := ⟨hnd, fun _ h => h⟩
  refine lv_aload_n hx hb dX6_begin_0 rfl (lv_at hl 0 rfl) ?_
  refine lv_iload_n hx hb dX6_begin_1 rfl (lv_at hl 1 rfl) ?_
  refine lv_iconst (v := 1) hx hb dX6_begin_2 (by decide) ?_
  refine lv_iconst (v := 4) hx hb dX6_begin_3 (by decide) ?_
  refine zro_i (va_runS (As := [.int v, .int 1, .int 4]) (rest := [.ref bx]) ⟨hx, hb, hml, hown, hts⟩ (c_X6_in l v 1 4) (va_cwS 3 hts gX6_begin_X6_in rfl rfl rfl (by decide +kernel) ⟨Nat.le_of_ble_eq_true rfl, Nat.le_of_ble_eq_true rfl⟩) zPu rfl rfl hl.1 rfl (lv_room (Nat.le_of_ble_eq_true rfl)) dX6_begin_4 ⟨Nat.zero_le _, Nat.zero_le _⟩) hP hS (fun H locs hP hS => ?_)
  refine lv_if_eq (tgt := 14) hx hb dX6_begin_7 (by decide) (fun c_7 => ?_) (fun c_7 => ?_)
  · skip
    have c_7 := bI_0.mp c_7
    refine lv_iconst (v := 1) hx hb dX6_begin_14 (by decide) ?_
    refine va_put (D := (dC, dI)) (ci := 3) (v := .int 1) (ty := .int) (C := RX6) (T := TX6) (N := 19) hx hb hts hinX6 tyX6 tyX6_ok nmX6 hown hK hP (hDD.va rfl) hS 0 rfl rfl 0 (by decide) (hts (.fieldLink RX6 64 "RoyalUrTableModel" "thrown" "I") (List.mem_of_getElem? (i := 1) rfl)) (fun _ h9 => h9) rfl (by decide +kernel) rfl rfl (Nat.le_of_ble_eq_true rfl) dX6_begin_15 (fun H locs hP hD9 hS => ?_)
    have hP : va_P (dC, dI) vwCl [(bx, .inr (3, [.int 1, .int pI, .int sI, .int tI, .int wI, .int cI, .ref bl, .ref ba, .ref bt, .ref bg, .ref be, .ref bf, .ref bw, .ref bs, .ref bm, .ref bn, .ref bb, .ref bu, .ref bh])), (ba, .inl (cyI, 32, .inl Af)), (bl, .inl (cyI, 2, .inl lf))] H := hP
    refine lv_aload_n hx hb dX6_begin_18 rfl (lv_at hl 0 rfl) ?_
    refine va_get (D := (dC, dI)) (ci := 3) (v := .int 1) (C := RX6) (T := TX6) (N := 19) hx hb hts hinX6 hown hK hP 0 rfl rfl 0 (by decide) (hts (.fieldLink RX6 64 "RoyalUrTableModel" "thrown" "I") (List.mem_of_getElem? (i := 1) rfl)) (fun _ h9 => h9) rfl dX6_begin_19 ?_
    refine lv_if_ne (tgt := 30) hx hb dX6_begin_22 (by decide) (fun _ => ?_) (fun c9 => absurd c9 (by decide))
    exact W.vret hx hb hr (fun t ht hW => ⟨⟨((1, pI, sI, tI, wI, cI), Af, lf), rfl, Or.inr ⟨rfl, rfl, rfl, zin_1f (n := 4) c_7⟩, zh ht hP⟩, hS.F ht⟩) hS.2.2 dX6_begin_30
  · skip
    have c_7 := bI_1.mp c_7
    obtain ⟨j, hj0, hj, rfl⟩ := zin_1b (n := 4) (by decide) c_7
    refine lv_iconst (v := 0) hx hb dX6_begin_10 (by decide) ?_
    refine lv_goto (tgt := 15) hx hb dX6_begin_11 (by decide) ?_
    refine va_put (D := (dC, dI)) (ci := 3) (v := .int 0) (ty := .int) (C := RX6) (T := TX6) (N := 19) hx hb hts hinX6 tyX6 tyX6_ok nmX6 hown hK hP (hDD.va rfl) hS 0 rfl rfl 0 (by decide) (hts (.fieldLink RX6 64 "RoyalUrTableModel" "thrown" "I") (List.mem_of_getElem? (i := 1) rfl)) (fun _ h9 => h9) rfl (by decide +kernel) rfl rfl (Nat.le_of_ble_eq_true rfl) dX6_begin_15 (fun H locs hP hD9 hS => ?_)
    have hP : va_P (dC, dI) vwCl [(bx, .inr (3, [.int 0, .int pI, .int sI, .int tI, .int wI, .int cI, .ref bl, .ref ba, .ref bt, .ref bg, .ref be, .ref bf, .ref bw, .ref bs, .ref bm, .ref bn, .ref bb, .ref bu, .ref bh])), (ba, .inl (cyI, 32, .inl Af)), (bl, .inl (cyI, 2, .inl lf))] H := hP
    refine lv_aload_n hx hb dX6_begin_18 rfl (lv_at hl 0 rfl) ?_
    refine va_get (D := (dC, dI)) (ci := 3) (v := .int 0) (C := RX6) (T := TX6) (N := 19) hx hb hts hinX6 hown hK hP 0 rfl rfl 0 (by decide) (hts (.fieldLink RX6 64 "RoyalUrTableModel" "thrown" "I") (List.mem_of_getElem? (i := 1) rfl)) (fun _ h9 => h9) rfl dX6_begin_19 ?_
    refine lv_if_ne (tgt := 30) hx hb dX6_begin_22 (by decide) (fun c9 => absurd c9 (by decide)) (fun _ => ?_)
    refine lv_aload_n hx hb dX6_begin_25 rfl (lv_at hl 0 rfl) ?_
    refine lv_iload_n hx hb dX6_begin_26 rfl (lv_at hl 1 rfl) ?_
    refine zrw_v (w1 := fun u : (Nat → Int32) × (Nat → Int32) => [(bx, .inr (3, [.int 0, .int (nI j), .int 0, .int (-1), .int (-1), .int 0, .ref bl, .ref ba, .ref bt, .ref bg, .ref be, .ref bf, .ref bw, .ref bs, .ref bm, .ref bn, .ref bb, .ref bu, .ref bh])), (ba, .inl (cyI, 32, .inl u.1)), (bl, .inl (cyI, 2, .inl u.2))]) (al := [bx, ba, bl]) (va_runV (As := [.int (nI j)]) (rest := []) ⟨hx, hb, hml, hown, hts⟩ (c_X6_starts l dC dI cyI cyJ pI bx bl ba bt bg be bf bw bs bm bn bb bu bh 0 sI tI wI cI Af lf j (by omega) hDD.1) (cwV 1 hts gX6_begin_X6_starts rfl rfl rfl (by decide +kernel) ⟨Nat.le_of_ble_eq_true rfl, Nat.le_of_ble_eq_true rfl⟩) (zPc_V (ci := 3) (q0 := 0) zB_T hP hK rfl rfl [0, 1, 2] rfl (fun _ _ _ => trivial)) rfl rfl hl.1 rfl (lv_room (Nat.le_of_ble_eq_true rfl)) dX6_begin_27 ⟨Nat.zero_le _, Nat.zero_le _⟩) hP hDD hS [0, 1, 2] rfl (fun _ => rfl) (fun u_27 H locs hw_27 hP hS => ?_)
    have hP : va_P (dC, dI) vwCl [(bx, .inr (3, [.int 0, .int (nI j), .int 0, .int (-1), .int (-1), .int 0, .ref bl, .ref ba, .ref bt, .ref bg, .ref be, .ref bf, .ref bw, .ref bs, .ref bm, .ref bn, .ref bb, .ref bu, .ref bh])), (ba, .inl (cyI, 32, .inl u_27.1)), (bl, .inl (cyI, 2, .inl u_27.2))] H := hP
    exact W.vret hx hb hr (fun t ht hW => ⟨⟨((0, nI j, 0, -1, -1, 0), u_27.1, u_27.2), rfl, Or.inl ⟨j, hj0, hj, rfl, rfl, hw_27.1, hw_27.2.1, hw_27.2.2⟩, zh ht hP⟩, hS.F ht⟩) hS.2.2 dX6_begin_30

/-! the law: rounds that read -/
set_option maxHeartbeats 4000000 in
set_option maxRecDepth 100000 in
theorem law_at {p : Program} {l : Launch} {e : Env} {s : State} {m : MethodId} {args : Array Value} {below : List Frame} {meth : Method} {c : Code} {Q : State → Prop} {dC : Nat → ClassId} {dI : Nat → Nat → Nat} {cyI cyJ cyD : ClassId} {b L tb ax a0 a1 ae at_ aw bx bl ba bt bg be bf bw bs bm bn bb bu bh aL aD : Nat} {xs : Nat → Int32} (E0 : zLE p l s m args c dC dI cyI cyJ cyD b L tb ax a0 a1 ae at_ aw bx bl ba bt bg be bf bw bs bm bn bb bu bh aL aD xs) (j : Nat) (hj : 4 * j + 4 ≤ L) {H : Heap} {locs : List Loc} (hI : zInv dC dI cyI cyJ cyD ax a0 a1 ae at_ aw bx bl ba bt bg be bf bw bs bm bn bb bu bh aL aD H) (hS : va_S (fun q : Nat => s.heap.size ≤ q) s.heap H locs) {ls : Array Slot} (hl : lv_has ls 9 [(5, .int (nI (4 * j))), (4, .ref aD), (3, .ref aL), (2, .ref bx), (1, .ref ax), (0, .ref b)])
    (K : ∀ (H : Heap) (locs : List Loc) (ls : Array Slot), zInv dC dI cyI cyJ cyD ax a0 a1 ae at_ aw bx bl ba bt bg be bf bw bs bm bn bb bu bh aL aD H → va_S (fun q : Nat => s.heap.size ≤ q) s.heap H locs → lv_has ls 9 [(5, .int (nI (4 * j))), (4, .ref aD), (3, .ref aL), (2, .ref bx), (1, .ref ax), (0, .ref b)] → W p l e room_1 s m args below meth c H locs (22 + 4 * (j + 1)) (14465 + 24 * (j + 1)) Q (F0 m 974 ls [])) : W p l e room_1 s m args below meth c H locs (22 + 4 * j) (14465 + 24 * j) Q (F0 m 319 ls []) := by
  obtain ⟨hx, hb, hml, hown, hts, hX, hbl, hLL, hl0, hK3, hH, hAl⟩ := E0
  have hK := hK3.sub (tys' := [(cyI, .int), (cyJ, .long)]) [0, 1] rfl
  have hbA : ¬ (fun q : Nat => s.heap.size ≤ q) b := Nat.not_le.mpr hbl
  obtain ⟨k, tn, own, oth, mm, kk, ao, aq, mk, wn, cnt, lo, lq, thr, wf, wb, Af, lf, hf, tf, gf, ef, ff, u0, oF, dF, ⟨hk1, hsd, hO, hQ, hkk, htb, hmk, hmm, hwn, hhas, hrow, hl1, hl2, htf, hff⟩, hP⟩ := hI
  have hDD := zD_side hsd hAl
  have htn := zSd_le hsd
  obtain ⟨v1, hv1⟩ : ∃ v, v = xs (4 * j + 1) := ⟨_, rfl⟩
  obtain ⟨v2, hv2⟩ : ∃ v, v = xs (4 * j + 2) := ⟨_, rfl⟩
  refine lv_aload_n hx hb dL_law_319 rfl (lv_at hl 4 rfl) ?_
  refine lv_aload_n hx hb dL_law_320 rfl (lv_at hl 5 rfl) ?_
  refine lv_iload hx hb dL_law_321 (lv_at hl 0 rfl) ?_
  refine lv_iconst (v := 1) hx hb dL_law_323 (by decide) ?_
  refine lv_iadd hx hb dL_law_324 ?_
  refine zz_i (y := nI (4 * j + 1)) (nI_add (4 * j) 1) ?_
  refine va_sld hx hb hX hbl hbA hS (vp_in_nI (n := 4 * j + 1) (by omega) (by omega)) dL_law_325 ?_
  refine zz_i (y := v1) (by rw [nI_clamp (by omega), hv1]) ?_
  refine lv_aload_n hx hb dL_law_326 rfl (lv_at hl 5 rfl) ?_
  refine lv_iload hx hb dL_law_327 (lv_at hl 0 rfl) ?_
  refine lv_iconst (v := 2) hx hb dL_law_329 (by decide) ?_
  refine lv_iadd hx hb dL_law_330 ?_
  refine zz_i (y := nI (4 * j + 2)) (nI_add (4 * j) 2) ?_
  refine va_sld hx hb hX hbl hbA hS (vp_in_nI (n := 4 * j + 2) (by omega) (by omega)) dL_law_331 ?_
  refine zz_i (y := v2) (by rw [nI_clamp (by omega), hv2]) ?_
  refine lv_aload_n hx hb dL_law_332 rfl (lv_at hl 2 rfl) ?_
  refine zlw_i (vx_runSX (As := [.ref ax, .int v1, .int v2, .ref aL]) (rest := []) ⟨hx, hb, hml, hown, hts⟩ (c_L_at l hl0 dC dI cyI cyJ tb ax a0 a1 ae aw ao aq mk wn cnt lo lq k tn own oth mm hsd hO hQ hmk hmm v1 v2 aL oF (z_nd hDD.1 [20] (by decide) rfl)) (vx_cwSW 4 hts gL_law_L_at rfl rfl rfl (by decide +kernel) ⟨Nat.le_of_ble_eq_true rfl, Nat.le_of_ble_eq_true rfl⟩) (zPc_S zB_H hP hK [0, 1, 2, 20] rfl (zH_at hH hS (fun q hq => hDD.2 q (zA_pl [20] rfl q hq)))) rfl rfl hl.1 rfl (lv_room (Nat.le_of_ble_eq_true rfl)) dL_law_333 ⟨by show 22 + 4 * j + 2 ≤ 601024; omega, by show 14465 + 24 * j + 12 ≤ 7293034; omega⟩) hP hDD hS [20] rfl (fun _ => rfl) (fun r9 u9 H locs hw hP hS => ?_)
  refine W.widen (k := 22 + 4 * (j + 1)) (n := 14465 + 24 * (j + 1)) (by omega) (by omega) ?_
  have hu9 : u9 = u9 := rfl
  rcases hw with ⟨r8, rfl, hw, hout⟩ | ⟨rfl, hw⟩
  · skip
    have hP : va_P (dC, dI) vwCl [(ax, .inr (2, [.ref a0, .ref a1, .ref ae, .ref aw, .int (nI k), .int (nI tn), .int mk, .int wn, .int cnt])), (ao, .inr (1, [.long (lN own), .int lo])), (aq, .inr (1, [.long (lN oth), .int lq])), (ae, .inr (0, [.ref at_, .int (nI kk)])), (at_, .inl (cyI, 13500, .inl wf)), (aw, .inl (cyI, 15, .inl wb)), (bx, .inr (3, [.int thr, .int (nI k), .int (nI tn), .int mk, .int wn, .int cnt, .ref bl, .ref ba, .ref bt, .ref bg, .ref be, .ref bf, .ref bw, .ref bs, .ref bm, .ref bn, .ref bb, .ref bu, .ref bh])), (bl, .inl (cyI, 2, .inl lf)), (ba, .inl (cyI, 32, .inl Af)), (bt, .inl (cyI, 5, .inl tf)), (bg, .inl (cyI, 225, .inl gf)), (be, .inl (cyI, 225, .inl ef)), (bf, .inl (cyI, 225, .inl ff)), (bw, .inl (cyI, 160, .inl u0.1)), (bs, .inl (cyI, 5, .inl u0.2.1)), (bm, .inl (cyI, 5, .inl u0.2.2.1)), (bn, .inl (cyI, 5, .inl u0.2.2.2.1)), (bb, .inl (cyI, 5, .inl u0.2.2.2.2.1)), (bu, .inl (cyJ, 5, .inr (.inl u0.2.2.2.2.2))), (bh, .inl (cyI, 15, .inl hf)), (aL, .inl (cyJ, 1, .inr (.inl u9))), (aD, .inl (cyD, 1, .inr (.inr (.inr (.inl dF)))))] H := hP
    refine lv_istore (lv' := [(6, .int 0), (5, .int (nI (4 * j))), (4, .ref aD), (3, .ref aL), (2, .ref bx), (1, .ref ax), (0, .ref b)]) hx hb dL_law_336 hl (by decide) rfl (fun ls hl => ?_)
    refine lv_aload_n hx hb dL_law_338 rfl (lv_at hl 4 rfl) ?_
    refine lv_aload_n hx hb dL_law_339 rfl (lv_at hl 6 rfl) ?_
    refine lv_iload hx hb dL_law_340 (lv_at hl 1 rfl) ?_
    refine lv_iconst (v := 1) hx hb dL_law_342 (by decide) ?_
    refine lv_iadd hx hb dL_law_343 ?_
    refine zz_i (y := nI (4 * j + 1)) (nI_add (4 * j) 1) ?_
    refine va_sld hx hb hX hbl hbA hS (vp_in_nI (n := 4 * j + 1) (by omega) (by omega)) dL_law_344 ?_
    refine zz_i (y := v1) (by rw [nI_clamp (by omega), hv1]) ?_
    refine lv_aload_n hx hb dL_law_345 rfl (lv_at hl 6 rfl) ?_
    refine lv_iload hx hb dL_law_346 (lv_at hl 1 rfl) ?_
    refine lv_iconst (v := 2) hx hb dL_law_348 (by decide) ?_
    refine lv_iadd hx hb dL_law_349 ?_
    refine zz_i (y := nI (4 * j + 2)) (nI_add (4 * j) 2) ?_
    refine va_sld hx hb hX hbl hbA hS (vp_in_nI (n := 4 * j + 2) (by omega) (by omega)) dL_law_350 ?_
    refine zz_i (y := v2) (by rw [nI_clamp (by omega), hv2]) ?_
    refine zrw_i (w1 := fun u : Int32 => [(bx, .inr (3, [.int u, .int (nI k), .int (nI tn), .int mk, .int wn, .int cnt, .ref bl, .ref ba, .ref bt, .ref bg, .ref be, .ref bf, .ref bw, .ref bs, .ref bm, .ref bn, .ref bb, .ref bu, .ref bh])), (ba, .inl (cyI, 32, .inl Af))]) (al := [bx, ba]) (va_runV (As := [.int v1, .int v2]) (rest := []) ⟨hx, hb, hml, hown, hts⟩ (c_X6_at l dC dI cyI cyJ k bx bl ba bt bg be bf bw bs bm bn bb bu bh thr mk wn cnt Af tn own oth mm htn hrow hmk hmm v1 v2 (z_nd hDD.1 [6, 8] (by decide) rfl)) (cwV 2 hts gL_law_X6_at rfl rfl rfl (by decide +kernel) ⟨Nat.le_of_ble_eq_true rfl, Nat.le_of_ble_eq_true rfl⟩) (zPc_V (ci := 3) (q0 := 6) zB_T hP hK rfl rfl [6, 8] rfl (fun _ _ _ => trivial)) rfl rfl hl.1 rfl (lv_room (Nat.le_of_ble_eq_true rfl)) dL_law_351 ⟨by show 22 + 4 * (j + 1) + 0 ≤ 601024; omega, by show 14465 + 24 * (j + 1) + 0 ≤ 7293034; omega⟩) hP hDD hS [6, 8] rfl (fun _ => rfl) (fun r7 u7 H locs h7 hP hS => ?_)
    have hP : va_P (dC, dI) vwCl [(ax, .inr (2, [.ref a0, .ref a1, .ref ae, .ref aw, .int (nI k), .int (nI tn), .int mk, .int wn, .int cnt])), (ao, .inr (1, [.long (lN own), .int lo])), (aq, .inr (1, [.long (lN oth), .int lq])), (ae, .inr (0, [.ref at_, .int (nI kk)])), (at_, .inl (cyI, 13500, .inl wf)), (aw, .inl (cyI, 15, .inl wb)), (bx, .inr (3, [.int u7, .int (nI k), .int (nI tn), .int mk, .int wn, .int cnt, .ref bl, .ref ba, .ref bt, .ref bg, .ref be, .ref bf, .ref bw, .ref bs, .ref bm, .ref bn, .ref bb, .ref bu, .ref bh])), (bl, .inl (cyI, 2, .inl lf)), (ba, .inl (cyI, 32, .inl Af)), (bt, .inl (cyI, 5, .inl tf)), (bg, .inl (cyI, 225, .inl gf)), (be, .inl (cyI, 225, .inl ef)), (bf, .inl (cyI, 225, .inl ff)), (bw, .inl (cyI, 160, .inl u0.1)), (bs, .inl (cyI, 5, .inl u0.2.1)), (bm, .inl (cyI, 5, .inl u0.2.2.1)), (bn, .inl (cyI, 5, .inl u0.2.2.2.1)), (bb, .inl (cyI, 5, .inl u0.2.2.2.2.1)), (bu, .inl (cyJ, 5, .inr (.inl u0.2.2.2.2.2))), (bh, .inl (cyI, 15, .inl hf)), (aL, .inl (cyJ, 1, .inr (.inl u9))), (aD, .inl (cyD, 1, .inr (.inr (.inr (.inl dF)))))] H := hP
    rcases h7 with ⟨e7, h7⟩ | ⟨e7, h7⟩
    · skip
      have e7 : u7 = 0 := e7
      rw [e7] at hP
      have hP : va_P (dC, dI) vwCl [(ax, .inr (2, [.ref a0, .ref a1, .ref ae, .ref aw, .int (nI k), .int (nI tn), .int mk, .int wn, .int cnt])), (ao, .inr (1, [.long (lN own), .int lo])), (aq, .inr (1, [.long (lN oth), .int lq])), (ae, .inr (0, [.ref at_, .int (nI kk)])), (at_, .inl (cyI, 13500, .inl wf)), (aw, .inl (cyI, 15, .inl wb)), (bx, .inr (3, [.int 0, .int (nI k), .int (nI tn), .int mk, .int wn, .int cnt, .ref bl, .ref ba, .ref bt, .ref bg, .ref be, .ref bf, .ref bw, .ref bs, .ref bm, .ref bn, .ref bb, .ref bu, .ref bh])), (bl, .inl (cyI, 2, .inl lf)), (ba, .inl (cyI, 32, .inl Af)), (bt, .inl (cyI, 5, .inl tf)), (bg, .inl (cyI, 225, .inl gf)), (be, .inl (cyI, 225, .inl ef)), (bf, .inl (cyI, 225, .inl ff)), (bw, .inl (cyI, 160, .inl u0.1)), (bs, .inl (cyI, 5, .inl u0.2.1)), (bm, .inl (cyI, 5, .inl u0.2.2.1)), (bn, .inl (cyI, 5, .inl u0.2.2.2.1)), (bb, .inl (cyI, 5, .inl u0.2.2.2.2.1)), (bu, .inl (cyJ, 5, .inr (.inl u0.2.2.2.2.2))), (bh, .inl (cyI, 15, .inl hf)), (aL, .inl (cyJ, 1, .inr (.inl u9))), (aD, .inl (cyD, 1, .inr (.inr (.inr (.inl dF)))))] H := hP
      obtain ⟨sN, pN, h1, h2, h3, h4, h5⟩ := hw
      obtain ⟨sM, pM, g1, g2, g3, g4, g5⟩ := h7
      obtain rfl : sN = sM := (nI_eq (by omega) (by omega)).mp (h3.symm.trans g3)
      obtain rfl : pN = pM := (nI_eq (by omega) (by omega)).mp (h4.symm.trans g4)
      have hout8 : u9 0 = (r7 : Int32).toInt64 := by rw [hout, h5, g5]
      refine lv_istore (lv' := [(7, .int r7), (6, .int 0), (5, .int (nI (4 * j))), (4, .ref aD), (3, .ref aL), (2, .ref bx), (1, .ref ax), (0, .ref b)]) hx hb dL_law_354 hl (by decide) rfl (fun ls hl => ?_)
      refine lv_aload_n hx hb dL_law_356 rfl (lv_at hl 5 rfl) ?_
      refine zro_i (va_runV (As := []) (rest := []) ⟨hx, hb, hml, hown, hts⟩ (c_X6_thrown l dC dI cyI cyJ (nI k) bx bl ba bt bg be bf bw bs bm bn bb bu bh 0 (nI tn) mk wn cnt) (cwV 0 hts gL_law_X6_thrown rfl rfl rfl (by decide +kernel) ⟨Nat.le_of_ble_eq_true rfl, Nat.le_of_ble_eq_true rfl⟩) (zPc_V (ci := 3) (q0 := 6) zB_T hP hK rfl rfl [6] rfl (fun _ _ _ => trivial)) rfl rfl hl.1 rfl (lv_room (Nat.le_of_ble_eq_true rfl)) dL_law_357 ⟨by show 22 + 4 * (j + 1) + 0 ≤ 601024; omega, by show 14465 + 24 * (j + 1) + 0 ≤ 7293034; omega⟩) hP hS (fun H locs hP hS => ?_)
      refine lv_iload hx hb dL_law_360 (lv_at hl 1 rfl) ?_
      refine lv_icmp_eq (tgt := 367) hx hb dL_law_362 (by decide) (fun _ => ?_) (fun c9 => absurd c9 (by decide))
      refine lv_iload hx hb dL_law_367 (lv_at hl 1 rfl) ?_
      refine lv_if_ne (tgt := 384) hx hb dL_law_369 (by decide) (fun c9 => absurd c9 (by decide)) (fun _ => ?_)
      refine lv_aload_n hx hb dL_law_372 rfl (lv_at hl 4 rfl) ?_
      refine lv_iconst (v := 0) hx hb dL_law_373 (by decide) ?_
      refine zi_lald hx hb hK hP 20 1 rfl rfl (j := 0) rfl (by omega) (by decide) dL_law_374 ?_
      refine zz_l (y := (r7 : Int32).toInt64) hout8 ?_
      refine lv_iload hx hb dL_law_375 (lv_at hl 0 rfl) ?_
      refine lv_i2l (v := (r7 : Int32).toInt64) hx hb dL_law_377 rfl ?_
      refine W.lcmp hx hb dL_law_378 ?_
      refine zz_i (y := 0) (lg_same _) ?_
      refine lv_if_eq (tgt := 384) hx hb dL_law_379 (by decide) (fun _ => ?_) (fun c9 => absurd c9 (by decide))
      refine lv_goto (tgt := 974) hx hb dL_law_384 (by decide) ?_
      refine K _ _ _ ⟨k, tn, own, oth, mm, kk, ao, aq, mk, wn, cnt, lo, lq, 0, wf, wb, Af, lf, hf, tf, gf, ef, ff, u0, u9, dF, ⟨hk1, hsd, hO, hQ, hkk, htb, hmk, hmm, hwn, hhas, hrow, hl1, hl2, htf, hff⟩, hP⟩ hS (lv_sub hl [2, 3, 4, 5, 6, 7] rfl)
    · skip
      obtain ⟨sN, pN, h1, h2, h3, h4, h5⟩ := hw
      exact absurd ⟨(zin_iff (n := 1) (by decide)).mpr ⟨sN, h1, h3⟩, (zin_iff (n := 15) (by decide)).mpr ⟨pN, h2, h4⟩⟩ h7
  · skip
    have hP : va_P (dC, dI) vwCl [(ax, .inr (2, [.ref a0, .ref a1, .ref ae, .ref aw, .int (nI k), .int (nI tn), .int mk, .int wn, .int cnt])), (ao, .inr (1, [.long (lN own), .int lo])), (aq, .inr (1, [.long (lN oth), .int lq])), (ae, .inr (0, [.ref at_, .int (nI kk)])), (at_, .inl (cyI, 13500, .inl wf)), (aw, .inl (cyI, 15, .inl wb)), (bx, .inr (3, [.int thr, .int (nI k), .int (nI tn), .int mk, .int wn, .int cnt, .ref bl, .ref ba, .ref bt, .ref bg, .ref be, .ref bf, .ref bw, .ref bs, .ref bm, .ref bn, .ref bb, .ref bu, .ref bh])), (bl, .inl (cyI, 2, .inl lf)), (ba, .inl (cyI, 32, .inl Af)), (bt, .inl (cyI, 5, .inl tf)), (bg, .inl (cyI, 225, .inl gf)), (be, .inl (cyI, 225, .inl ef)), (bf, .inl (cyI, 225, .inl ff)), (bw, .inl (cyI, 160, .inl u0.1)), (bs, .inl (cyI, 5, .inl u0.2.1)), (bm, .inl (cyI, 5, .inl u0.2.2.1)), (bn, .inl (cyI, 5, .inl u0.2.2.2.1)), (bb, .inl (cyI, 5, .inl u0.2.2.2.2.1)), (bu, .inl (cyJ, 5, .inr (.inl u0.2.2.2.2.2))), (bh, .inl (cyI, 15, .inl hf)), (aL, .inl (cyJ, 1, .inr (.inl u9))), (aD, .inl (cyD, 1, .inr (.inr (.inr (.inl dF)))))] H := hP
    refine lv_istore (lv' := [(6, .int 1), (5, .int (nI (4 * j))), (4, .ref aD), (3, .ref aL), (2, .ref bx), (1, .ref ax), (0, .ref b)]) hx hb dL_law_336 hl (by decide) rfl (fun ls hl => ?_)
    refine lv_aload_n hx hb dL_law_338 rfl (lv_at hl 4 rfl) ?_
    refine lv_aload_n hx hb dL_law_339 rfl (lv_at hl 6 rfl) ?_
    refine lv_iload hx hb dL_law_340 (lv_at hl 1 rfl) ?_
    refine lv_iconst (v := 1) hx hb dL_law_342 (by decide) ?_
    refine lv_iadd hx hb dL_law_343 ?_
    refine zz_i (y := nI (4 * j + 1)) (nI_add (4 * j) 1) ?_
    refine va_sld hx hb hX hbl hbA hS (vp_in_nI (n := 4 * j + 1) (by omega) (by omega)) dL_law_344 ?_
    refine zz_i (y := v1) (by rw [nI_clamp (by omega), hv1]) ?_
    refine lv_aload_n hx hb dL_law_345 rfl (lv_at hl 6 rfl) ?_
    refine lv_iload hx hb dL_law_346 (lv_at hl 1 rfl) ?_
    refine lv_iconst (v := 2) hx hb dL_law_348 (by decide) ?_
    refine lv_iadd hx hb dL_law_349 ?_
    refine zz_i (y := nI (4 * j + 2)) (nI_add (4 * j) 2) ?_
    refine va_sld hx hb hX hbl hbA hS (vp_in_nI (n := 4 * j + 2) (by omega) (by omega)) dL_law_350 ?_
    refine zz_i (y := v2) (by rw [nI_clamp (by omega), hv2]) ?_
    refine zrw_i (w1 := fun u : Int32 => [(bx, .inr (3, [.int u, .int (nI k), .int (nI tn), .int mk, .int wn, .int cnt, .ref bl, .ref ba, .ref bt, .ref bg, .ref be, .ref bf, .ref bw, .ref bs, .ref bm, .ref bn, .ref bb, .ref bu, .ref bh])), (ba, .inl (cyI, 32, .inl Af))]) (al := [bx, ba]) (va_runV (As := [.int v1, .int v2]) (rest := []) ⟨hx, hb, hml, hown, hts⟩ (c_X6_at l dC dI cyI cyJ k bx bl ba bt bg be bf bw bs bm bn bb bu bh thr mk wn cnt Af tn own oth mm htn hrow hmk hmm v1 v2 (z_nd hDD.1 [6, 8] (by decide) rfl)) (cwV 2 hts gL_law_X6_at rfl rfl rfl (by decide +kernel) ⟨Nat.le_of_ble_eq_true rfl, Nat.le_of_ble_eq_true rfl⟩) (zPc_V (ci := 3) (q0 := 6) zB_T hP hK rfl rfl [6, 8] rfl (fun _ _ _ => trivial)) rfl rfl hl.1 rfl (lv_room (Nat.le_of_ble_eq_true rfl)) dL_law_351 ⟨by show 22 + 4 * (j + 1) + 0 ≤ 601024; omega, by show 14465 + 24 * (j + 1) + 0 ≤ 7293034; omega⟩) hP hDD hS [6, 8] rfl (fun _ => rfl) (fun r7 u7 H locs h7 hP hS => ?_)
    have hP : va_P (dC, dI) vwCl [(ax, .inr (2, [.ref a0, .ref a1, .ref ae, .ref aw, .int (nI k), .int (nI tn), .int mk, .int wn, .int cnt])), (ao, .inr (1, [.long (lN own), .int lo])), (aq, .inr (1, [.long (lN oth), .int lq])), (ae, .inr (0, [.ref at_, .int (nI kk)])), (at_, .inl (cyI, 13500, .inl wf)), (aw, .inl (cyI, 15, .inl wb)), (bx, .inr (3, [.int u7, .int (nI k), .int (nI tn), .int mk, .int wn, .int cnt, .ref bl, .ref ba, .ref bt, .ref bg, .ref be, .ref bf, .ref bw, .ref bs, .ref bm, .ref bn, .ref bb, .ref bu, .ref bh])), (bl, .inl (cyI, 2, .inl lf)), (ba, .inl (cyI, 32, .inl Af)), (bt, .inl (cyI, 5, .inl tf)), (bg, .inl (cyI, 225, .inl gf)), (be, .inl (cyI, 225, .inl ef)), (bf, .inl (cyI, 225, .inl ff)), (bw, .inl (cyI, 160, .inl u0.1)), (bs, .inl (cyI, 5, .inl u0.2.1)), (bm, .inl (cyI, 5, .inl u0.2.2.1)), (bn, .inl (cyI, 5, .inl u0.2.2.2.1)), (bb, .inl (cyI, 5, .inl u0.2.2.2.2.1)), (bu, .inl (cyJ, 5, .inr (.inl u0.2.2.2.2.2))), (bh, .inl (cyI, 15, .inl hf)), (aL, .inl (cyJ, 1, .inr (.inl u9))), (aD, .inl (cyD, 1, .inr (.inr (.inr (.inl dF)))))] H := hP
    rcases h7 with ⟨e7, h7⟩ | ⟨e7, h7⟩
    · skip
      obtain ⟨sN, pN, h1, h2, h3, h4, h5⟩ := h7
      exact absurd ⟨(zin_iff (n := 1) (by decide)).mpr ⟨sN, h1, h3⟩, (zin_iff (n := 15) (by decide)).mpr ⟨pN, h2, h4⟩⟩ hw
    · skip
      have e7 : u7 = 1 := e7
      rw [e7] at hP
      have hP : va_P (dC, dI) vwCl [(ax, .inr (2, [.ref a0, .ref a1, .ref ae, .ref aw, .int (nI k), .int (nI tn), .int mk, .int wn, .int cnt])), (ao, .inr (1, [.long (lN own), .int lo])), (aq, .inr (1, [.long (lN oth), .int lq])), (ae, .inr (0, [.ref at_, .int (nI kk)])), (at_, .inl (cyI, 13500, .inl wf)), (aw, .inl (cyI, 15, .inl wb)), (bx, .inr (3, [.int 1, .int (nI k), .int (nI tn), .int mk, .int wn, .int cnt, .ref bl, .ref ba, .ref bt, .ref bg, .ref be, .ref bf, .ref bw, .ref bs, .ref bm, .ref bn, .ref bb, .ref bu, .ref bh])), (bl, .inl (cyI, 2, .inl lf)), (ba, .inl (cyI, 32, .inl Af)), (bt, .inl (cyI, 5, .inl tf)), (bg, .inl (cyI, 225, .inl gf)), (be, .inl (cyI, 225, .inl ef)), (bf, .inl (cyI, 225, .inl ff)), (bw, .inl (cyI, 160, .inl u0.1)), (bs, .inl (cyI, 5, .inl u0.2.1)), (bm, .inl (cyI, 5, .inl u0.2.2.1)), (bn, .inl (cyI, 5, .inl u0.2.2.2.1)), (bb, .inl (cyI, 5, .inl u0.2.2.2.2.1)), (bu, .inl (cyJ, 5, .inr (.inl u0.2.2.2.2.2))), (bh, .inl (cyI, 15, .inl hf)), (aL, .inl (cyJ, 1, .inr (.inl u9))), (aD, .inl (cyD, 1, .inr (.inr (.inr (.inl dF)))))] H := hP
      refine lv_istore (lv' := [(7, .int r7), (6, .int 1), (5, .int (nI (4 * j))), (4, .ref aD), (3, .ref aL), (2, .ref bx), (1, .ref ax), (0, .ref b)]) hx hb dL_law_354 hl (by decide) rfl (fun ls hl => ?_)
      refine lv_aload_n hx hb dL_law_356 rfl (lv_at hl 5 rfl) ?_
      refine zro_i (va_runV (As := []) (rest := []) ⟨hx, hb, hml, hown, hts⟩ (c_X6_thrown l dC dI cyI cyJ (nI k) bx bl ba bt bg be bf bw bs bm bn bb bu bh 1 (nI tn) mk wn cnt) (cwV 0 hts gL_law_X6_thrown rfl rfl rfl (by decide +kernel) ⟨Nat.le_of_ble_eq_true rfl, Nat.le_of_ble_eq_true rfl⟩) (zPc_V (ci := 3) (q0 := 6) zB_T hP hK rfl rfl [6] rfl (fun _ _ _ => trivial)) rfl rfl hl.1 rfl (lv_room (Nat.le_of_ble_eq_true rfl)) dL_law_357 ⟨by show 22 + 4 * (j + 1) + 0 ≤ 601024; omega, by show 14465 + 24 * (j + 1) + 0 ≤ 7293034; omega⟩) hP hS (fun H locs hP hS => ?_)
      refine lv_iload hx hb dL_law_360 (lv_at hl 1 rfl) ?_
      refine lv_icmp_eq (tgt := 367) hx hb dL_law_362 (by decide) (fun _ => ?_) (fun c9 => absurd c9 (by decide))
      refine lv_iload hx hb dL_law_367 (lv_at hl 1 rfl) ?_
      refine lv_if_ne (tgt := 384) hx hb dL_law_369 (by decide) (fun _ => ?_) (fun c9 => absurd c9 (by decide))
      refine lv_goto (tgt := 974) hx hb dL_law_384 (by decide) ?_
      refine K _ _ _ ⟨k, tn, own, oth, mm, kk, ao, aq, mk, wn, cnt, lo, lq, 1, wf, wb, Af, lf, hf, tf, gf, ef, ff, u0, u9, dF, ⟨hk1, hsd, hO, hQ, hkk, htb, hmk, hmm, hwn, hhas, hrow, hl1, hl2, htf, hff⟩, hP⟩ hS (lv_sub hl [2, 3, 4, 5, 6, 7] rfl)

set_option maxHeartbeats 4000000 in
set_option maxRecDepth 100000 in
theorem law_progress {p : Program} {l : Launch} {e : Env} {s : State} {m : MethodId} {args : Array Value} {below : List Frame} {meth : Method} {c : Code} {Q : State → Prop} {dC : Nat → ClassId} {dI : Nat → Nat → Nat} {cyI cyJ cyD : ClassId} {b L tb ax a0 a1 ae at_ aw bx bl ba bt bg be bf bw bs bm bn bb bu bh aL aD : Nat} {xs : Nat → Int32} (E0 : zLE p l s m args c dC dI cyI cyJ cyD b L tb ax a0 a1 ae at_ aw bx bl ba bt bg be bf bw bs bm bn bb bu bh aL aD xs) (j : Nat) (hj : 4 * j + 4 ≤ L) {H : Heap} {locs : List Loc} (hI : zInv dC dI cyI cyJ cyD ax a0 a1 ae at_ aw bx bl ba bt bg be bf bw bs bm bn bb bu bh aL aD H) (hS : va_S (fun q : Nat => s.heap.size ≤ q) s.heap H locs) {ls : Array Slot} (hl : lv_has ls 9 [(5, .int (nI (4 * j))), (4, .ref aD), (3, .ref aL), (2, .ref bx), (1, .ref ax), (0, .ref b)])
    (K : ∀ (H : Heap) (locs : List Loc) (ls : Array Slot), zInv dC dI cyI cyJ cyD ax a0 a1 ae at_ aw bx bl ba bt bg be bf bw bs bm bn bb bu bh aL aD H → va_S (fun q : Nat => s.heap.size ≤ q) s.heap H locs → lv_has ls 9 [(5, .int (nI (4 * j))), (4, .ref aD), (3, .ref aL), (2, .ref bx), (1, .ref ax), (0, .ref b)] → W p l e room_1 s m args below meth c H locs (22 + 4 * (j + 1)) (14465 + 24 * (j + 1)) Q (F0 m 974 ls [])) : W p l e room_1 s m args below meth c H locs (22 + 4 * j) (14465 + 24 * j) Q (F0 m 387 ls []) := by
  obtain ⟨hx, hb, hml, hown, hts, hX, hbl, hLL, hl0, hK3, hH, hAl⟩ := E0
  have hK := hK3.sub (tys' := [(cyI, .int), (cyJ, .long)]) [0, 1] rfl
  have hbA : ¬ (fun q : Nat => s.heap.size ≤ q) b := Nat.not_le.mpr hbl
  obtain ⟨k, tn, own, oth, mm, kk, ao, aq, mk, wn, cnt, lo, lq, thr, wf, wb, Af, lf, hf, tf, gf, ef, ff, u0, oF, dF, ⟨hk1, hsd, hO, hQ, hkk, htb, hmk, hmm, hwn, hhas, hrow, hl1, hl2, htf, hff⟩, hP⟩ := hI
  have hDD := zD_side hsd hAl
  have htn := zSd_le hsd
  obtain ⟨v1, hv1⟩ : ∃ v, v = xs (4 * j + 1) := ⟨_, rfl⟩
  refine lv_aload_n hx hb dL_law_387 rfl (lv_at hl 4 rfl) ?_
  refine lv_aload_n hx hb dL_law_388 rfl (lv_at hl 5 rfl) ?_
  refine lv_iload hx hb dL_law_389 (lv_at hl 0 rfl) ?_
  refine lv_iconst (v := 1) hx hb dL_law_391 (by decide) ?_
  refine lv_iadd hx hb dL_law_392 ?_
  refine zz_i (y := nI (4 * j + 1)) (nI_add (4 * j) 1) ?_
  refine va_sld hx hb hX hbl hbA hS (vp_in_nI (n := 4 * j + 1) (by omega) (by omega)) dL_law_393 ?_
  refine zz_i (y := v1) (by rw [nI_clamp (by omega), hv1]) ?_
  refine lv_aload_n hx hb dL_law_394 rfl (lv_at hl 2 rfl) ?_
  refine zlw_i (vx_runSX (As := [.ref ax, .int v1, .ref aL]) (rest := []) ⟨hx, hb, hml, hown, hts⟩ (c_L_progress l hl0 dC dI cyI cyJ tb ax a0 a1 ae aw ao aq mk wn cnt lo lq k tn own oth mm hsd hO hQ hmk hmm v1 aL oF (z_nd hDD.1 [20] (by decide) rfl)) (vx_cwSW 3 hts gL_law_L_progress rfl rfl rfl (by decide +kernel) ⟨Nat.le_of_ble_eq_true rfl, Nat.le_of_ble_eq_true rfl⟩) (zPc_S zB_H hP hK [0, 1, 2, 20] rfl (zH_at hH hS (fun q hq => hDD.2 q (zA_pl [20] rfl q hq)))) rfl rfl hl.1 rfl (lv_room (Nat.le_of_ble_eq_true rfl)) dL_law_395 ⟨by show 22 + 4 * j + 1 ≤ 601024; omega, by show 14465 + 24 * j + 6 ≤ 7293034; omega⟩) hP hDD hS [20] rfl (fun _ => rfl) (fun r9 u9 H locs hw hP hS => ?_)
  refine W.widen (k := 22 + 4 * (j + 1)) (n := 14465 + 24 * (j + 1)) (by omega) (by omega) ?_
  have hu9 : u9 = u9 := rfl
  rcases hw with ⟨r8, rfl, hw, hout⟩ | ⟨rfl, hw⟩
  · skip
    have hP : va_P (dC, dI) vwCl [(ax, .inr (2, [.ref a0, .ref a1, .ref ae, .ref aw, .int (nI k), .int (nI tn), .int mk, .int wn, .int cnt])), (ao, .inr (1, [.long (lN own), .int lo])), (aq, .inr (1, [.long (lN oth), .int lq])), (ae, .inr (0, [.ref at_, .int (nI kk)])), (at_, .inl (cyI, 13500, .inl wf)), (aw, .inl (cyI, 15, .inl wb)), (bx, .inr (3, [.int thr, .int (nI k), .int (nI tn), .int mk, .int wn, .int cnt, .ref bl, .ref ba, .ref bt, .ref bg, .ref be, .ref bf, .ref bw, .ref bs, .ref bm, .ref bn, .ref bb, .ref bu, .ref bh])), (bl, .inl (cyI, 2, .inl lf)), (ba, .inl (cyI, 32, .inl Af)), (bt, .inl (cyI, 5, .inl tf)), (bg, .inl (cyI, 225, .inl gf)), (be, .inl (cyI, 225, .inl ef)), (bf, .inl (cyI, 225, .inl ff)), (bw, .inl (cyI, 160, .inl u0.1)), (bs, .inl (cyI, 5, .inl u0.2.1)), (bm, .inl (cyI, 5, .inl u0.2.2.1)), (bn, .inl (cyI, 5, .inl u0.2.2.2.1)), (bb, .inl (cyI, 5, .inl u0.2.2.2.2.1)), (bu, .inl (cyJ, 5, .inr (.inl u0.2.2.2.2.2))), (bh, .inl (cyI, 15, .inl hf)), (aL, .inl (cyJ, 1, .inr (.inl u9))), (aD, .inl (cyD, 1, .inr (.inr (.inr (.inl dF)))))] H := hP
    refine lv_istore (lv' := [(6, .int 0), (5, .int (nI (4 * j))), (4, .ref aD), (3, .ref aL), (2, .ref bx), (1, .ref ax), (0, .ref b)]) hx hb dL_law_398 hl (by decide) rfl (fun ls hl => ?_)
    refine lv_aload_n hx hb dL_law_400 rfl (lv_at hl 4 rfl) ?_
    refine lv_aload_n hx hb dL_law_401 rfl (lv_at hl 6 rfl) ?_
    refine lv_iload hx hb dL_law_402 (lv_at hl 1 rfl) ?_
    refine lv_iconst (v := 1) hx hb dL_law_404 (by decide) ?_
    refine lv_iadd hx hb dL_law_405 ?_
    refine zz_i (y := nI (4 * j + 1)) (nI_add (4 * j) 1) ?_
    refine va_sld hx hb hX hbl hbA hS (vp_in_nI (n := 4 * j + 1) (by omega) (by omega)) dL_law_406 ?_
    refine zz_i (y := v1) (by rw [nI_clamp (by omega), hv1]) ?_
    refine zrw_i (w1 := fun u : Int32 => [(bx, .inr (3, [.int u, .int (nI k), .int (nI tn), .int mk, .int wn, .int cnt, .ref bl, .ref ba, .ref bt, .ref bg, .ref be, .ref bf, .ref bw, .ref bs, .ref bm, .ref bn, .ref bb, .ref bu, .ref bh])), (ba, .inl (cyI, 32, .inl Af))]) (al := [bx, ba]) (va_runV (As := [.int v1]) (rest := []) ⟨hx, hb, hml, hown, hts⟩ (c_X6_progress l dC dI cyI cyJ k bx bl ba bt bg be bf bw bs bm bn bb bu bh thr mk wn cnt Af tn own oth mm htn hrow hmk hmm v1 (z_nd hDD.1 [6, 8] (by decide) rfl)) (cwV 1 hts gL_law_X6_progress rfl rfl rfl (by decide +kernel) ⟨Nat.le_of_ble_eq_true rfl, Nat.le_of_ble_eq_true rfl⟩) (zPc_V (ci := 3) (q0 := 6) zB_T hP hK rfl rfl [6, 8] rfl (fun _ _ _ => trivial)) rfl rfl hl.1 rfl (lv_room (Nat.le_of_ble_eq_true rfl)) dL_law_407 ⟨by show 22 + 4 * (j + 1) + 0 ≤ 601024; omega, by show 14465 + 24 * (j + 1) + 0 ≤ 7293034; omega⟩) hP hDD hS [6, 8] rfl (fun _ => rfl) (fun r7 u7 H locs h7 hP hS => ?_)
    have hP : va_P (dC, dI) vwCl [(ax, .inr (2, [.ref a0, .ref a1, .ref ae, .ref aw, .int (nI k), .int (nI tn), .int mk, .int wn, .int cnt])), (ao, .inr (1, [.long (lN own), .int lo])), (aq, .inr (1, [.long (lN oth), .int lq])), (ae, .inr (0, [.ref at_, .int (nI kk)])), (at_, .inl (cyI, 13500, .inl wf)), (aw, .inl (cyI, 15, .inl wb)), (bx, .inr (3, [.int u7, .int (nI k), .int (nI tn), .int mk, .int wn, .int cnt, .ref bl, .ref ba, .ref bt, .ref bg, .ref be, .ref bf, .ref bw, .ref bs, .ref bm, .ref bn, .ref bb, .ref bu, .ref bh])), (bl, .inl (cyI, 2, .inl lf)), (ba, .inl (cyI, 32, .inl Af)), (bt, .inl (cyI, 5, .inl tf)), (bg, .inl (cyI, 225, .inl gf)), (be, .inl (cyI, 225, .inl ef)), (bf, .inl (cyI, 225, .inl ff)), (bw, .inl (cyI, 160, .inl u0.1)), (bs, .inl (cyI, 5, .inl u0.2.1)), (bm, .inl (cyI, 5, .inl u0.2.2.1)), (bn, .inl (cyI, 5, .inl u0.2.2.2.1)), (bb, .inl (cyI, 5, .inl u0.2.2.2.2.1)), (bu, .inl (cyJ, 5, .inr (.inl u0.2.2.2.2.2))), (bh, .inl (cyI, 15, .inl hf)), (aL, .inl (cyJ, 1, .inr (.inl u9))), (aD, .inl (cyD, 1, .inr (.inr (.inr (.inl dF)))))] H := hP
    rcases h7 with ⟨e7, h7⟩ | ⟨e7, h7⟩
    · skip
      have e7 : u7 = 0 := e7
      rw [e7] at hP
      have hP : va_P (dC, dI) vwCl [(ax, .inr (2, [.ref a0, .ref a1, .ref ae, .ref aw, .int (nI k), .int (nI tn), .int mk, .int wn, .int cnt])), (ao, .inr (1, [.long (lN own), .int lo])), (aq, .inr (1, [.long (lN oth), .int lq])), (ae, .inr (0, [.ref at_, .int (nI kk)])), (at_, .inl (cyI, 13500, .inl wf)), (aw, .inl (cyI, 15, .inl wb)), (bx, .inr (3, [.int 0, .int (nI k), .int (nI tn), .int mk, .int wn, .int cnt, .ref bl, .ref ba, .ref bt, .ref bg, .ref be, .ref bf, .ref bw, .ref bs, .ref bm, .ref bn, .ref bb, .ref bu, .ref bh])), (bl, .inl (cyI, 2, .inl lf)), (ba, .inl (cyI, 32, .inl Af)), (bt, .inl (cyI, 5, .inl tf)), (bg, .inl (cyI, 225, .inl gf)), (be, .inl (cyI, 225, .inl ef)), (bf, .inl (cyI, 225, .inl ff)), (bw, .inl (cyI, 160, .inl u0.1)), (bs, .inl (cyI, 5, .inl u0.2.1)), (bm, .inl (cyI, 5, .inl u0.2.2.1)), (bn, .inl (cyI, 5, .inl u0.2.2.2.1)), (bb, .inl (cyI, 5, .inl u0.2.2.2.2.1)), (bu, .inl (cyJ, 5, .inr (.inl u0.2.2.2.2.2))), (bh, .inl (cyI, 15, .inl hf)), (aL, .inl (cyJ, 1, .inr (.inl u9))), (aD, .inl (cyD, 1, .inr (.inr (.inr (.inl dF)))))] H := hP
      obtain ⟨xN, h1, h2, h3⟩ := hw
      obtain ⟨xM, g1, g2, g3⟩ := h7
      obtain rfl : xN = xM := (nI_eq (by omega) (by omega)).mp (h2.symm.trans g2)
      have hout8 : u9 0 = (r7 : Int32).toInt64 := by rw [hout, h3, g3]
      refine lv_istore (lv' := [(7, .int r7), (6, .int 0), (5, .int (nI (4 * j))), (4, .ref aD), (3, .ref aL), (2, .ref bx), (1, .ref ax), (0, .ref b)]) hx hb dL_law_410 hl (by decide) rfl (fun ls hl => ?_)
      refine lv_aload_n hx hb dL_law_412 rfl (lv_at hl 5 rfl) ?_
      refine zro_i (va_runV (As := []) (rest := []) ⟨hx, hb, hml, hown, hts⟩ (c_X6_thrown l dC dI cyI cyJ (nI k) bx bl ba bt bg be bf bw bs bm bn bb bu bh 0 (nI tn) mk wn cnt) (cwV 0 hts gL_law_X6_thrown rfl rfl rfl (by decide +kernel) ⟨Nat.le_of_ble_eq_true rfl, Nat.le_of_ble_eq_true rfl⟩) (zPc_V (ci := 3) (q0 := 6) zB_T hP hK rfl rfl [6] rfl (fun _ _ _ => trivial)) rfl rfl hl.1 rfl (lv_room (Nat.le_of_ble_eq_true rfl)) dL_law_413 ⟨by show 22 + 4 * (j + 1) + 0 ≤ 601024; omega, by show 14465 + 24 * (j + 1) + 0 ≤ 7293034; omega⟩) hP hS (fun H locs hP hS => ?_)
      refine lv_iload hx hb dL_law_416 (lv_at hl 1 rfl) ?_
      refine lv_icmp_eq (tgt := 423) hx hb dL_law_418 (by decide) (fun _ => ?_) (fun c9 => absurd c9 (by decide))
      refine lv_iload hx hb dL_law_423 (lv_at hl 1 rfl) ?_
      refine lv_if_ne (tgt := 440) hx hb dL_law_425 (by decide) (fun c9 => absurd c9 (by decide)) (fun _ => ?_)
      refine lv_aload_n hx hb dL_law_428 rfl (lv_at hl 4 rfl) ?_
      refine lv_iconst (v := 0) hx hb dL_law_429 (by decide) ?_
      refine zi_lald hx hb hK hP 20 1 rfl rfl (j := 0) rfl (by omega) (by decide) dL_law_430 ?_
      refine zz_l (y := (r7 : Int32).toInt64) hout8 ?_
      refine lv_iload hx hb dL_law_431 (lv_at hl 0 rfl) ?_
      refine lv_i2l (v := (r7 : Int32).toInt64) hx hb dL_law_433 rfl ?_
      refine W.lcmp hx hb dL_law_434 ?_
      refine zz_i (y := 0) (lg_same _) ?_
      refine lv_if_eq (tgt := 440) hx hb dL_law_435 (by decide) (fun _ => ?_) (fun c9 => absurd c9 (by decide))
      refine lv_goto (tgt := 974) hx hb dL_law_440 (by decide) ?_
      refine K _ _ _ ⟨k, tn, own, oth, mm, kk, ao, aq, mk, wn, cnt, lo, lq, 0, wf, wb, Af, lf, hf, tf, gf, ef, ff, u0, u9, dF, ⟨hk1, hsd, hO, hQ, hkk, htb, hmk, hmm, hwn, hhas, hrow, hl1, hl2, htf, hff⟩, hP⟩ hS (lv_sub hl [2, 3, 4, 5, 6, 7] rfl)
    · skip
      obtain ⟨xN, h1, h2, h3⟩ := hw
      exact absurd ((zin_iff (n := 1) (by decide)).mpr ⟨xN, h1, h2⟩) h7
  · skip
    have hP : va_P (dC, dI) vwCl [(ax, .inr (2, [.ref a0, .ref a1, .ref ae, .ref aw, .int (nI k), .int (nI tn), .int mk, .int wn, .int cnt])), (ao, .inr (1, [.long (lN own), .int lo])), (aq, .inr (1, [.long (lN oth), .int lq])), (ae, .inr (0, [.ref at_, .int (nI kk)])), (at_, .inl (cyI, 13500, .inl wf)), (aw, .inl (cyI, 15, .inl wb)), (bx, .inr (3, [.int thr, .int (nI k), .int (nI tn), .int mk, .int wn, .int cnt, .ref bl, .ref ba, .ref bt, .ref bg, .ref be, .ref bf, .ref bw, .ref bs, .ref bm, .ref bn, .ref bb, .ref bu, .ref bh])), (bl, .inl (cyI, 2, .inl lf)), (ba, .inl (cyI, 32, .inl Af)), (bt, .inl (cyI, 5, .inl tf)), (bg, .inl (cyI, 225, .inl gf)), (be, .inl (cyI, 225, .inl ef)), (bf, .inl (cyI, 225, .inl ff)), (bw, .inl (cyI, 160, .inl u0.1)), (bs, .inl (cyI, 5, .inl u0.2.1)), (bm, .inl (cyI, 5, .inl u0.2.2.1)), (bn, .inl (cyI, 5, .inl u0.2.2.2.1)), (bb, .inl (cyI, 5, .inl u0.2.2.2.2.1)), (bu, .inl (cyJ, 5, .inr (.inl u0.2.2.2.2.2))), (bh, .inl (cyI, 15, .inl hf)), (aL, .inl (cyJ, 1, .inr (.inl u9))), (aD, .inl (cyD, 1, .inr (.inr (.inr (.inl dF)))))] H := hP
    refine lv_istore (lv' := [(6, .int 1), (5, .int (nI (4 * j))), (4, .ref aD), (3, .ref aL), (2, .ref bx), (1, .ref ax), (0, .ref b)]) hx hb dL_law_398 hl (by decide) rfl (fun ls hl => ?_)
    refine lv_aload_n hx hb dL_law_400 rfl (lv_at hl 4 rfl) ?_
    refine lv_aload_n hx hb dL_law_401 rfl (lv_at hl 6 rfl) ?_
    refine lv_iload hx hb dL_law_402 (lv_at hl 1 rfl) ?_
    refine lv_iconst (v := 1) hx hb dL_law_404 (by decide) ?_
    refine lv_iadd hx hb dL_law_405 ?_
    refine zz_i (y := nI (4 * j + 1)) (nI_add (4 * j) 1) ?_
    refine va_sld hx hb hX hbl hbA hS (vp_in_nI (n := 4 * j + 1) (by omega) (by omega)) dL_law_406 ?_
    refine zz_i (y := v1) (by rw [nI_clamp (by omega), hv1]) ?_
    refine zrw_i (w1 := fun u : Int32 => [(bx, .inr (3, [.int u, .int (nI k), .int (nI tn), .int mk, .int wn, .int cnt, .ref bl, .ref ba, .ref bt, .ref bg, .ref be, .ref bf, .ref bw, .ref bs, .ref bm, .ref bn, .ref bb, .ref bu, .ref bh])), (ba, .inl (cyI, 32, .inl Af))]) (al := [bx, ba]) (va_runV (As := [.int v1]) (rest := []) ⟨hx, hb, hml, hown, hts⟩ (c_X6_progress l dC dI cyI cyJ k bx bl ba bt bg be bf bw bs bm bn bb bu bh thr mk wn cnt Af tn own oth mm htn hrow hmk hmm v1 (z_nd hDD.1 [6, 8] (by decide) rfl)) (cwV 1 hts gL_law_X6_progress rfl rfl rfl (by decide +kernel) ⟨Nat.le_of_ble_eq_true rfl, Nat.le_of_ble_eq_true rfl⟩) (zPc_V (ci := 3) (q0 := 6) zB_T hP hK rfl rfl [6, 8] rfl (fun _ _ _ => trivial)) rfl rfl hl.1 rfl (lv_room (Nat.le_of_ble_eq_true rfl)) dL_law_407 ⟨by show 22 + 4 * (j + 1) + 0 ≤ 601024; omega, by show 14465 + 24 * (j + 1) + 0 ≤ 7293034; omega⟩) hP hDD hS [6, 8] rfl (fun _ => rfl) (fun r7 u7 H locs h7 hP hS => ?_)
    have hP : va_P (dC, dI) vwCl [(ax, .inr (2, [.ref a0, .ref a1, .ref ae, .ref aw, .int (nI k), .int (nI tn), .int mk, .int wn, .int cnt])), (ao, .inr (1, [.long (lN own), .int lo])), (aq, .inr (1, [.long (lN oth), .int lq])), (ae, .inr (0, [.ref at_, .int (nI kk)])), (at_, .inl (cyI, 13500, .inl wf)), (aw, .inl (cyI, 15, .inl wb)), (bx, .inr (3, [.int u7, .int (nI k), .int (nI tn), .int mk, .int wn, .int cnt, .ref bl, .ref ba, .ref bt, .ref bg, .ref be, .ref bf, .ref bw, .ref bs, .ref bm, .ref bn, .ref bb, .ref bu, .ref bh])), (bl, .inl (cyI, 2, .inl lf)), (ba, .inl (cyI, 32, .inl Af)), (bt, .inl (cyI, 5, .inl tf)), (bg, .inl (cyI, 225, .inl gf)), (be, .inl (cyI, 225, .inl ef)), (bf, .inl (cyI, 225, .inl ff)), (bw, .inl (cyI, 160, .inl u0.1)), (bs, .inl (cyI, 5, .inl u0.2.1)), (bm, .inl (cyI, 5, .inl u0.2.2.1)), (bn, .inl (cyI, 5, .inl u0.2.2.2.1)), (bb, .inl (cyI, 5, .inl u0.2.2.2.2.1)), (bu, .inl (cyJ, 5, .inr (.inl u0.2.2.2.2.2))), (bh, .inl (cyI, 15, .inl hf)), (aL, .inl (cyJ, 1, .inr (.inl u9))), (aD, .inl (cyD, 1, .inr (.inr (.inr (.inl dF)))))] H := hP
    rcases h7 with ⟨e7, h7⟩ | ⟨e7, h7⟩
    · skip
      obtain ⟨xN, h1, h2, g3⟩ := h7
      exact absurd ((zin_iff (n := 1) (by decide)).mpr ⟨xN, h1, h2⟩) hw
    · skip
      have e7 : u7 = 1 := e7
      rw [e7] at hP
      have hP : va_P (dC, dI) vwCl [(ax, .inr (2, [.ref a0, .ref a1, .ref ae, .ref aw, .int (nI k), .int (nI tn), .int mk, .int wn, .int cnt])), (ao, .inr (1, [.long (lN own), .int lo])), (aq, .inr (1, [.long (lN oth), .int lq])), (ae, .inr (0, [.ref at_, .int (nI kk)])), (at_, .inl (cyI, 13500, .inl wf)), (aw, .inl (cyI, 15, .inl wb)), (bx, .inr (3, [.int 1, .int (nI k), .int (nI tn), .int mk, .int wn, .int cnt, .ref bl, .ref ba, .ref bt, .ref bg, .ref be, .ref bf, .ref bw, .ref bs, .ref bm, .ref bn, .ref bb, .ref bu, .ref bh])), (bl, .inl (cyI, 2, .inl lf)), (ba, .inl (cyI, 32, .inl Af)), (bt, .inl (cyI, 5, .inl tf)), (bg, .inl (cyI, 225, .inl gf)), (be, .inl (cyI, 225, .inl ef)), (bf, .inl (cyI, 225, .inl ff)), (bw, .inl (cyI, 160, .inl u0.1)), (bs, .inl (cyI, 5, .inl u0.2.1)), (bm, .inl (cyI, 5, .inl u0.2.2.1)), (bn, .inl (cyI, 5, .inl u0.2.2.2.1)), (bb, .inl (cyI, 5, .inl u0.2.2.2.2.1)), (bu, .inl (cyJ, 5, .inr (.inl u0.2.2.2.2.2))), (bh, .inl (cyI, 15, .inl hf)), (aL, .inl (cyJ, 1, .inr (.inl u9))), (aD, .inl (cyD, 1, .inr (.inr (.inr (.inl dF)))))] H := hP
      refine lv_istore (lv' := [(7, .int r7), (6, .int 1), (5, .int (nI (4 * j))), (4, .ref aD), (3, .ref aL), (2, .ref bx), (1, .ref ax), (0, .ref b)]) hx hb dL_law_410 hl (by decide) rfl (fun ls hl => ?_)
      refine lv_aload_n hx hb dL_law_412 rfl (lv_at hl 5 rfl) ?_
      refine zro_i (va_runV (As := []) (rest := []) ⟨hx, hb, hml, hown, hts⟩ (c_X6_thrown l dC dI cyI cyJ (nI k) bx bl ba bt bg be bf bw bs bm bn bb bu bh 1 (nI tn) mk wn cnt) (cwV 0 hts gL_law_X6_thrown rfl rfl rfl (by decide +kernel) ⟨Nat.le_of_ble_eq_true rfl, Nat.le_of_ble_eq_true rfl⟩) (zPc_V (ci := 3) (q0 := 6) zB_T hP hK rfl rfl [6] rfl (fun _ _ _ => trivial)) rfl rfl hl.1 rfl (lv_room (Nat.le_of_ble_eq_true rfl)) dL_law_413 ⟨by show 22 + 4 * (j + 1) + 0 ≤ 601024; omega, by show 14465 + 24 * (j + 1) + 0 ≤ 7293034; omega⟩) hP hS (fun H locs hP hS => ?_)
      refine lv_iload hx hb dL_law_416 (lv_at hl 1 rfl) ?_
      refine lv_icmp_eq (tgt := 423) hx hb dL_law_418 (by decide) (fun _ => ?_) (fun c9 => absurd c9 (by decide))
      refine lv_iload hx hb dL_law_423 (lv_at hl 1 rfl) ?_
      refine lv_if_ne (tgt := 440) hx hb dL_law_425 (by decide) (fun _ => ?_) (fun c9 => absurd c9 (by decide))
      refine lv_goto (tgt := 974) hx hb dL_law_440 (by decide) ?_
      refine K _ _ _ ⟨k, tn, own, oth, mm, kk, ao, aq, mk, wn, cnt, lo, lq, 1, wf, wb, Af, lf, hf, tf, gf, ef, ff, u0, u9, dF, ⟨hk1, hsd, hO, hQ, hkk, htb, hmk, hmm, hwn, hhas, hrow, hl1, hl2, htf, hff⟩, hP⟩ hS (lv_sub hl [2, 3, 4, 5, 6, 7] rfl)

set_option maxHeartbeats 4000000 in
set_option maxRecDepth 100000 in
theorem law_captured {p : Program} {l : Launch} {e : Env} {s : State} {m : MethodId} {args : Array Value} {below : List Frame} {meth : Method} {c : Code} {Q : State → Prop} {dC : Nat → ClassId} {dI : Nat → Nat → Nat} {cyI cyJ cyD : ClassId} {b L tb ax a0 a1 ae at_ aw bx bl ba bt bg be bf bw bs bm bn bb bu bh aL aD : Nat} {xs : Nat → Int32} (E0 : zLE p l s m args c dC dI cyI cyJ cyD b L tb ax a0 a1 ae at_ aw bx bl ba bt bg be bf bw bs bm bn bb bu bh aL aD xs) (j : Nat) (hj : 4 * j + 4 ≤ L) {H : Heap} {locs : List Loc} (hI : zInv dC dI cyI cyJ cyD ax a0 a1 ae at_ aw bx bl ba bt bg be bf bw bs bm bn bb bu bh aL aD H) (hS : va_S (fun q : Nat => s.heap.size ≤ q) s.heap H locs) {ls : Array Slot} (hl : lv_has ls 9 [(5, .int (nI (4 * j))), (4, .ref aD), (3, .ref aL), (2, .ref bx), (1, .ref ax), (0, .ref b)])
    (K : ∀ (H : Heap) (locs : List Loc) (ls : Array Slot), zInv dC dI cyI cyJ cyD ax a0 a1 ae at_ aw bx bl ba bt bg be bf bw bs bm bn bb bu bh aL aD H → va_S (fun q : Nat => s.heap.size ≤ q) s.heap H locs → lv_has ls 9 [(5, .int (nI (4 * j))), (4, .ref aD), (3, .ref aL), (2, .ref bx), (1, .ref ax), (0, .ref b)] → W p l e room_1 s m args below meth c H locs (22 + 4 * (j + 1)) (14465 + 24 * (j + 1)) Q (F0 m 974 ls [])) : W p l e room_1 s m args below meth c H locs (22 + 4 * j) (14465 + 24 * j) Q (F0 m 443 ls []) := by
  obtain ⟨hx, hb, hml, hown, hts, hX, hbl, hLL, hl0, hK3, hH, hAl⟩ := E0
  have hK := hK3.sub (tys' := [(cyI, .int), (cyJ, .long)]) [0, 1] rfl
  have hbA : ¬ (fun q : Nat => s.heap.size ≤ q) b := Nat.not_le.mpr hbl
  obtain ⟨k, tn, own, oth, mm, kk, ao, aq, mk, wn, cnt, lo, lq, thr, wf, wb, Af, lf, hf, tf, gf, ef, ff, u0, oF, dF, ⟨hk1, hsd, hO, hQ, hkk, htb, hmk, hmm, hwn, hhas, hrow, hl1, hl2, htf, hff⟩, hP⟩ := hI
  have hDD := zD_side hsd hAl
  have htn := zSd_le hsd
  obtain ⟨v1, hv1⟩ : ∃ v, v = xs (4 * j + 1) := ⟨_, rfl⟩
  refine lv_aload_n hx hb dL_law_443 rfl (lv_at hl 4 rfl) ?_
  refine lv_aload_n hx hb dL_law_444 rfl (lv_at hl 5 rfl) ?_
  refine lv_iload hx hb dL_law_445 (lv_at hl 0 rfl) ?_
  refine lv_iconst (v := 1) hx hb dL_law_447 (by decide) ?_
  refine lv_iadd hx hb dL_law_448 ?_
  refine zz_i (y := nI (4 * j + 1)) (nI_add (4 * j) 1) ?_
  refine va_sld hx hb hX hbl hbA hS (vp_in_nI (n := 4 * j + 1) (by omega) (by omega)) dL_law_449 ?_
  refine zz_i (y := v1) (by rw [nI_clamp (by omega), hv1]) ?_
  refine lv_aload_n hx hb dL_law_450 rfl (lv_at hl 2 rfl) ?_
  refine zlw_i (vx_runSX (As := [.ref ax, .int v1, .ref aL]) (rest := []) ⟨hx, hb, hml, hown, hts⟩ (c_L_captured l hl0 dC dI cyI cyJ tb ax a0 a1 ae aw ao aq mk wn cnt lo lq k tn own oth mm hsd hO hQ hmk hmm v1 aL oF (z_nd hDD.1 [20] (by decide) rfl)) (vx_cwSW 3 hts gL_law_L_captured rfl rfl rfl (by decide +kernel) ⟨Nat.le_of_ble_eq_true rfl, Nat.le_of_ble_eq_true rfl⟩) (zPc_S zB_H hP hK [0, 1, 2, 20] rfl (zH_at hH hS (fun q hq => hDD.2 q (zA_pl [20] rfl q hq)))) rfl rfl hl.1 rfl (lv_room (Nat.le_of_ble_eq_true rfl)) dL_law_451 ⟨by show 22 + 4 * j + 1 ≤ 601024; omega, by show 14465 + 24 * j + 6 ≤ 7293034; omega⟩) hP hDD hS [20] rfl (fun _ => rfl) (fun r9 u9 H locs hw hP hS => ?_)
  refine W.widen (k := 22 + 4 * (j + 1)) (n := 14465 + 24 * (j + 1)) (by omega) (by omega) ?_
  have hu9 : u9 = u9 := rfl
  rcases hw with ⟨r8, rfl, hw, hout⟩ | ⟨rfl, hw⟩
  · skip
    have hP : va_P (dC, dI) vwCl [(ax, .inr (2, [.ref a0, .ref a1, .ref ae, .ref aw, .int (nI k), .int (nI tn), .int mk, .int wn, .int cnt])), (ao, .inr (1, [.long (lN own), .int lo])), (aq, .inr (1, [.long (lN oth), .int lq])), (ae, .inr (0, [.ref at_, .int (nI kk)])), (at_, .inl (cyI, 13500, .inl wf)), (aw, .inl (cyI, 15, .inl wb)), (bx, .inr (3, [.int thr, .int (nI k), .int (nI tn), .int mk, .int wn, .int cnt, .ref bl, .ref ba, .ref bt, .ref bg, .ref be, .ref bf, .ref bw, .ref bs, .ref bm, .ref bn, .ref bb, .ref bu, .ref bh])), (bl, .inl (cyI, 2, .inl lf)), (ba, .inl (cyI, 32, .inl Af)), (bt, .inl (cyI, 5, .inl tf)), (bg, .inl (cyI, 225, .inl gf)), (be, .inl (cyI, 225, .inl ef)), (bf, .inl (cyI, 225, .inl ff)), (bw, .inl (cyI, 160, .inl u0.1)), (bs, .inl (cyI, 5, .inl u0.2.1)), (bm, .inl (cyI, 5, .inl u0.2.2.1)), (bn, .inl (cyI, 5, .inl u0.2.2.2.1)), (bb, .inl (cyI, 5, .inl u0.2.2.2.2.1)), (bu, .inl (cyJ, 5, .inr (.inl u0.2.2.2.2.2))), (bh, .inl (cyI, 15, .inl hf)), (aL, .inl (cyJ, 1, .inr (.inl u9))), (aD, .inl (cyD, 1, .inr (.inr (.inr (.inl dF)))))] H := hP
    refine lv_istore (lv' := [(6, .int 0), (5, .int (nI (4 * j))), (4, .ref aD), (3, .ref aL), (2, .ref bx), (1, .ref ax), (0, .ref b)]) hx hb dL_law_454 hl (by decide) rfl (fun ls hl => ?_)
    refine lv_aload_n hx hb dL_law_456 rfl (lv_at hl 4 rfl) ?_
    refine lv_aload_n hx hb dL_law_457 rfl (lv_at hl 6 rfl) ?_
    refine lv_iload hx hb dL_law_458 (lv_at hl 1 rfl) ?_
    refine lv_iconst (v := 1) hx hb dL_law_460 (by decide) ?_
    refine lv_iadd hx hb dL_law_461 ?_
    refine zz_i (y := nI (4 * j + 1)) (nI_add (4 * j) 1) ?_
    refine va_sld hx hb hX hbl hbA hS (vp_in_nI (n := 4 * j + 1) (by omega) (by omega)) dL_law_462 ?_
    refine zz_i (y := v1) (by rw [nI_clamp (by omega), hv1]) ?_
    refine zrw_i (w1 := fun u : Int32 => [(bx, .inr (3, [.int u, .int (nI k), .int (nI tn), .int mk, .int wn, .int cnt, .ref bl, .ref ba, .ref bt, .ref bg, .ref be, .ref bf, .ref bw, .ref bs, .ref bm, .ref bn, .ref bb, .ref bu, .ref bh])), (bl, .inl (cyI, 2, .inl lf))]) (al := [bx, bl]) (va_runV (As := [.int v1]) (rest := []) ⟨hx, hb, hml, hown, hts⟩ (c_X6_captured l dC dI cyI cyJ k bx bl ba bt bg be bf bw bs bm bn bb bu bh thr mk wn cnt lo lq lf tn htn hl1 hl2 v1 (z_nd hDD.1 [6, 7] (by decide) rfl)) (cwV 1 hts gL_law_X6_captured rfl rfl rfl (by decide +kernel) ⟨Nat.le_of_ble_eq_true rfl, Nat.le_of_ble_eq_true rfl⟩) (zPc_V (ci := 3) (q0 := 6) zB_T hP hK rfl rfl [6, 7] rfl (fun _ _ _ => trivial)) rfl rfl hl.1 rfl (lv_room (Nat.le_of_ble_eq_true rfl)) dL_law_463 ⟨by show 22 + 4 * (j + 1) + 0 ≤ 601024; omega, by show 14465 + 24 * (j + 1) + 0 ≤ 7293034; omega⟩) hP hDD hS [6, 7] rfl (fun _ => rfl) (fun r7 u7 H locs h7 hP hS => ?_)
    have hP : va_P (dC, dI) vwCl [(ax, .inr (2, [.ref a0, .ref a1, .ref ae, .ref aw, .int (nI k), .int (nI tn), .int mk, .int wn, .int cnt])), (ao, .inr (1, [.long (lN own), .int lo])), (aq, .inr (1, [.long (lN oth), .int lq])), (ae, .inr (0, [.ref at_, .int (nI kk)])), (at_, .inl (cyI, 13500, .inl wf)), (aw, .inl (cyI, 15, .inl wb)), (bx, .inr (3, [.int u7, .int (nI k), .int (nI tn), .int mk, .int wn, .int cnt, .ref bl, .ref ba, .ref bt, .ref bg, .ref be, .ref bf, .ref bw, .ref bs, .ref bm, .ref bn, .ref bb, .ref bu, .ref bh])), (bl, .inl (cyI, 2, .inl lf)), (ba, .inl (cyI, 32, .inl Af)), (bt, .inl (cyI, 5, .inl tf)), (bg, .inl (cyI, 225, .inl gf)), (be, .inl (cyI, 225, .inl ef)), (bf, .inl (cyI, 225, .inl ff)), (bw, .inl (cyI, 160, .inl u0.1)), (bs, .inl (cyI, 5, .inl u0.2.1)), (bm, .inl (cyI, 5, .inl u0.2.2.1)), (bn, .inl (cyI, 5, .inl u0.2.2.2.1)), (bb, .inl (cyI, 5, .inl u0.2.2.2.2.1)), (bu, .inl (cyJ, 5, .inr (.inl u0.2.2.2.2.2))), (bh, .inl (cyI, 15, .inl hf)), (aL, .inl (cyJ, 1, .inr (.inl u9))), (aD, .inl (cyD, 1, .inr (.inr (.inr (.inl dF)))))] H := hP
    rcases h7 with ⟨e7, h7⟩ | ⟨e7, h7⟩
    · skip
      have e7 : u7 = 0 := e7
      rw [e7] at hP
      have hP : va_P (dC, dI) vwCl [(ax, .inr (2, [.ref a0, .ref a1, .ref ae, .ref aw, .int (nI k), .int (nI tn), .int mk, .int wn, .int cnt])), (ao, .inr (1, [.long (lN own), .int lo])), (aq, .inr (1, [.long (lN oth), .int lq])), (ae, .inr (0, [.ref at_, .int (nI kk)])), (at_, .inl (cyI, 13500, .inl wf)), (aw, .inl (cyI, 15, .inl wb)), (bx, .inr (3, [.int 0, .int (nI k), .int (nI tn), .int mk, .int wn, .int cnt, .ref bl, .ref ba, .ref bt, .ref bg, .ref be, .ref bf, .ref bw, .ref bs, .ref bm, .ref bn, .ref bb, .ref bu, .ref bh])), (bl, .inl (cyI, 2, .inl lf)), (ba, .inl (cyI, 32, .inl Af)), (bt, .inl (cyI, 5, .inl tf)), (bg, .inl (cyI, 225, .inl gf)), (be, .inl (cyI, 225, .inl ef)), (bf, .inl (cyI, 225, .inl ff)), (bw, .inl (cyI, 160, .inl u0.1)), (bs, .inl (cyI, 5, .inl u0.2.1)), (bm, .inl (cyI, 5, .inl u0.2.2.1)), (bn, .inl (cyI, 5, .inl u0.2.2.2.1)), (bb, .inl (cyI, 5, .inl u0.2.2.2.2.1)), (bu, .inl (cyJ, 5, .inr (.inl u0.2.2.2.2.2))), (bh, .inl (cyI, 15, .inl hf)), (aL, .inl (cyJ, 1, .inr (.inl u9))), (aD, .inl (cyD, 1, .inr (.inr (.inr (.inl dF)))))] H := hP
      obtain ⟨xN, h1, h2, h3⟩ := hw
      obtain ⟨xM, g1, g2, g3⟩ := h7
      obtain rfl : xN = xM := (nI_eq (by omega) (by omega)).mp (h2.symm.trans g2)
      have hout8 : u9 0 = (r7 : Int32).toInt64 := by rw [hout, h3, g3]
      refine lv_istore (lv' := [(7, .int r7), (6, .int 0), (5, .int (nI (4 * j))), (4, .ref aD), (3, .ref aL), (2, .ref bx), (1, .ref ax), (0, .ref b)]) hx hb dL_law_466 hl (by decide) rfl (fun ls hl => ?_)
      refine lv_aload_n hx hb dL_law_468 rfl (lv_at hl 5 rfl) ?_
      refine zro_i (va_runV (As := []) (rest := []) ⟨hx, hb, hml, hown, hts⟩ (c_X6_thrown l dC dI cyI cyJ (nI k) bx bl ba bt bg be bf bw bs bm bn bb bu bh 0 (nI tn) mk wn cnt) (cwV 0 hts gL_law_X6_thrown rfl rfl rfl (by decide +kernel) ⟨Nat.le_of_ble_eq_true rfl, Nat.le_of_ble_eq_true rfl⟩) (zPc_V (ci := 3) (q0 := 6) zB_T hP hK rfl rfl [6] rfl (fun _ _ _ => trivial)) rfl rfl hl.1 rfl (lv_room (Nat.le_of_ble_eq_true rfl)) dL_law_469 ⟨by show 22 + 4 * (j + 1) + 0 ≤ 601024; omega, by show 14465 + 24 * (j + 1) + 0 ≤ 7293034; omega⟩) hP hS (fun H locs hP hS => ?_)
      refine lv_iload hx hb dL_law_472 (lv_at hl 1 rfl) ?_
      refine lv_icmp_eq (tgt := 479) hx hb dL_law_474 (by decide) (fun _ => ?_) (fun c9 => absurd c9 (by decide))
      refine lv_iload hx hb dL_law_479 (lv_at hl 1 rfl) ?_
      refine lv_if_ne (tgt := 496) hx hb dL_law_481 (by decide) (fun c9 => absurd c9 (by decide)) (fun _ => ?_)
      refine lv_aload_n hx hb dL_law_484 rfl (lv_at hl 4 rfl) ?_
      refine lv_iconst (v := 0) hx hb dL_law_485 (by decide) ?_
      refine zi_lald hx hb hK hP 20 1 rfl rfl (j := 0) rfl (by omega) (by decide) dL_law_486 ?_
      refine zz_l (y := (r7 : Int32).toInt64) hout8 ?_
      refine lv_iload hx hb dL_law_487 (lv_at hl 0 rfl) ?_
      refine lv_i2l (v := (r7 : Int32).toInt64) hx hb dL_law_489 rfl ?_
      refine W.lcmp hx hb dL_law_490 ?_
      refine zz_i (y := 0) (lg_same _) ?_
      refine lv_if_eq (tgt := 496) hx hb dL_law_491 (by decide) (fun _ => ?_) (fun c9 => absurd c9 (by decide))
      refine lv_goto (tgt := 974) hx hb dL_law_496 (by decide) ?_
      refine K _ _ _ ⟨k, tn, own, oth, mm, kk, ao, aq, mk, wn, cnt, lo, lq, 0, wf, wb, Af, lf, hf, tf, gf, ef, ff, u0, u9, dF, ⟨hk1, hsd, hO, hQ, hkk, htb, hmk, hmm, hwn, hhas, hrow, hl1, hl2, htf, hff⟩, hP⟩ hS (lv_sub hl [2, 3, 4, 5, 6, 7] rfl)
    · skip
      obtain ⟨xN, h1, h2, h3⟩ := hw
      exact absurd ((zin_iff (n := 1) (by decide)).mpr ⟨xN, h1, h2⟩) h7
  · skip
    have hP : va_P (dC, dI) vwCl [(ax, .inr (2, [.ref a0, .ref a1, .ref ae, .ref aw, .int (nI k), .int (nI tn), .int mk, .int wn, .int cnt])), (ao, .inr (1, [.long (lN own), .int lo])), (aq, .inr (1, [.long (lN oth), .int lq])), (ae, .inr (0, [.ref at_, .int (nI kk)])), (at_, .inl (cyI, 13500, .inl wf)), (aw, .inl (cyI, 15, .inl wb)), (bx, .inr (3, [.int thr, .int (nI k), .int (nI tn), .int mk, .int wn, .int cnt, .ref bl, .ref ba, .ref bt, .ref bg, .ref be, .ref bf, .ref bw, .ref bs, .ref bm, .ref bn, .ref bb, .ref bu, .ref bh])), (bl, .inl (cyI, 2, .inl lf)), (ba, .inl (cyI, 32, .inl Af)), (bt, .inl (cyI, 5, .inl tf)), (bg, .inl (cyI, 225, .inl gf)), (be, .inl (cyI, 225, .inl ef)), (bf, .inl (cyI, 225, .inl ff)), (bw, .inl (cyI, 160, .inl u0.1)), (bs, .inl (cyI, 5, .inl u0.2.1)), (bm, .inl (cyI, 5, .inl u0.2.2.1)), (bn, .inl (cyI, 5, .inl u0.2.2.2.1)), (bb, .inl (cyI, 5, .inl u0.2.2.2.2.1)), (bu, .inl (cyJ, 5, .inr (.inl u0.2.2.2.2.2))), (bh, .inl (cyI, 15, .inl hf)), (aL, .inl (cyJ, 1, .inr (.inl u9))), (aD, .inl (cyD, 1, .inr (.inr (.inr (.inl dF)))))] H := hP
    refine lv_istore (lv' := [(6, .int 1), (5, .int (nI (4 * j))), (4, .ref aD), (3, .ref aL), (2, .ref bx), (1, .ref ax), (0, .ref b)]) hx hb dL_law_454 hl (by decide) rfl (fun ls hl => ?_)
    refine lv_aload_n hx hb dL_law_456 rfl (lv_at hl 4 rfl) ?_
    refine lv_aload_n hx hb dL_law_457 rfl (lv_at hl 6 rfl) ?_
    refine lv_iload hx hb dL_law_458 (lv_at hl 1 rfl) ?_
    refine lv_iconst (v := 1) hx hb dL_law_460 (by decide) ?_
    refine lv_iadd hx hb dL_law_461 ?_
    refine zz_i (y := nI (4 * j + 1)) (nI_add (4 * j) 1) ?_
    refine va_sld hx hb hX hbl hbA hS (vp_in_nI (n := 4 * j + 1) (by omega) (by omega)) dL_law_462 ?_
    refine zz_i (y := v1) (by rw [nI_clamp (by omega), hv1]) ?_
    refine zrw_i (w1 := fun u : Int32 => [(bx, .inr (3, [.int u, .int (nI k), .int (nI tn), .int mk, .int wn, .int cnt, .ref bl, .ref ba, .ref bt, .ref bg, .ref be, .ref bf, .ref bw, .ref bs, .ref bm, .ref bn, .ref bb, .ref bu, .ref bh])), (bl, .inl (cyI, 2, .inl lf))]) (al := [bx, bl]) (va_runV (As := [.int v1]) (rest := []) ⟨hx, hb, hml, hown, hts⟩ (c_X6_captured l dC dI cyI cyJ k bx bl ba bt bg be bf bw bs bm bn bb bu bh thr mk wn cnt lo lq lf tn htn hl1 hl2 v1 (z_nd hDD.1 [6, 7] (by decide) rfl)) (cwV 1 hts gL_law_X6_captured rfl rfl rfl (by decide +kernel) ⟨Nat.le_of_ble_eq_true rfl, Nat.le_of_ble_eq_true rfl⟩) (zPc_V (ci := 3) (q0 := 6) zB_T hP hK rfl rfl [6, 7] rfl (fun _ _ _ => trivial)) rfl rfl hl.1 rfl (lv_room (Nat.le_of_ble_eq_true rfl)) dL_law_463 ⟨by show 22 + 4 * (j + 1) + 0 ≤ 601024; omega, by show 14465 + 24 * (j + 1) + 0 ≤ 7293034; omega⟩) hP hDD hS [6, 7] rfl (fun _ => rfl) (fun r7 u7 H locs h7 hP hS => ?_)
    have hP : va_P (dC, dI) vwCl [(ax, .inr (2, [.ref a0, .ref a1, .ref ae, .ref aw, .int (nI k), .int (nI tn), .int mk, .int wn, .int cnt])), (ao, .inr (1, [.long (lN own), .int lo])), (aq, .inr (1, [.long (lN oth), .int lq])), (ae, .inr (0, [.ref at_, .int (nI kk)])), (at_, .inl (cyI, 13500, .inl wf)), (aw, .inl (cyI, 15, .inl wb)), (bx, .inr (3, [.int u7, .int (nI k), .int (nI tn), .int mk, .int wn, .int cnt, .ref bl, .ref ba, .ref bt, .ref bg, .ref be, .ref bf, .ref bw, .ref bs, .ref bm, .ref bn, .ref bb, .ref bu, .ref bh])), (bl, .inl (cyI, 2, .inl lf)), (ba, .inl (cyI, 32, .inl Af)), (bt, .inl (cyI, 5, .inl tf)), (bg, .inl (cyI, 225, .inl gf)), (be, .inl (cyI, 225, .inl ef)), (bf, .inl (cyI, 225, .inl ff)), (bw, .inl (cyI, 160, .inl u0.1)), (bs, .inl (cyI, 5, .inl u0.2.1)), (bm, .inl (cyI, 5, .inl u0.2.2.1)), (bn, .inl (cyI, 5, .inl u0.2.2.2.1)), (bb, .inl (cyI, 5, .inl u0.2.2.2.2.1)), (bu, .inl (cyJ, 5, .inr (.inl u0.2.2.2.2.2))), (bh, .inl (cyI, 15, .inl hf)), (aL, .inl (cyJ, 1, .inr (.inl u9))), (aD, .inl (cyD, 1, .inr (.inr (.inr (.inl dF)))))] H := hP
    rcases h7 with ⟨e7, h7⟩ | ⟨e7, h7⟩
    · skip
      obtain ⟨xN, h1, h2, g3⟩ := h7
      exact absurd ((zin_iff (n := 1) (by decide)).mpr ⟨xN, h1, h2⟩) hw
    · skip
      have e7 : u7 = 1 := e7
      rw [e7] at hP
      have hP : va_P (dC, dI) vwCl [(ax, .inr (2, [.ref a0, .ref a1, .ref ae, .ref aw, .int (nI k), .int (nI tn), .int mk, .int wn, .int cnt])), (ao, .inr (1, [.long (lN own), .int lo])), (aq, .inr (1, [.long (lN oth), .int lq])), (ae, .inr (0, [.ref at_, .int (nI kk)])), (at_, .inl (cyI, 13500, .inl wf)), (aw, .inl (cyI, 15, .inl wb)), (bx, .inr (3, [.int 1, .int (nI k), .int (nI tn), .int mk, .int wn, .int cnt, .ref bl, .ref ba, .ref bt, .ref bg, .ref be, .ref bf, .ref bw, .ref bs, .ref bm, .ref bn, .ref bb, .ref bu, .ref bh])), (bl, .inl (cyI, 2, .inl lf)), (ba, .inl (cyI, 32, .inl Af)), (bt, .inl (cyI, 5, .inl tf)), (bg, .inl (cyI, 225, .inl gf)), (be, .inl (cyI, 225, .inl ef)), (bf, .inl (cyI, 225, .inl ff)), (bw, .inl (cyI, 160, .inl u0.1)), (bs, .inl (cyI, 5, .inl u0.2.1)), (bm, .inl (cyI, 5, .inl u0.2.2.1)), (bn, .inl (cyI, 5, .inl u0.2.2.2.1)), (bb, .inl (cyI, 5, .inl u0.2.2.2.2.1)), (bu, .inl (cyJ, 5, .inr (.inl u0.2.2.2.2.2))), (bh, .inl (cyI, 15, .inl hf)), (aL, .inl (cyJ, 1, .inr (.inl u9))), (aD, .inl (cyD, 1, .inr (.inr (.inr (.inl dF)))))] H := hP
      refine lv_istore (lv' := [(7, .int r7), (6, .int 1), (5, .int (nI (4 * j))), (4, .ref aD), (3, .ref aL), (2, .ref bx), (1, .ref ax), (0, .ref b)]) hx hb dL_law_466 hl (by decide) rfl (fun ls hl => ?_)
      refine lv_aload_n hx hb dL_law_468 rfl (lv_at hl 5 rfl) ?_
      refine zro_i (va_runV (As := []) (rest := []) ⟨hx, hb, hml, hown, hts⟩ (c_X6_thrown l dC dI cyI cyJ (nI k) bx bl ba bt bg be bf bw bs bm bn bb bu bh 1 (nI tn) mk wn cnt) (cwV 0 hts gL_law_X6_thrown rfl rfl rfl (by decide +kernel) ⟨Nat.le_of_ble_eq_true rfl, Nat.le_of_ble_eq_true rfl⟩) (zPc_V (ci := 3) (q0 := 6) zB_T hP hK rfl rfl [6] rfl (fun _ _ _ => trivial)) rfl rfl hl.1 rfl (lv_room (Nat.le_of_ble_eq_true rfl)) dL_law_469 ⟨by show 22 + 4 * (j + 1) + 0 ≤ 601024; omega, by show 14465 + 24 * (j + 1) + 0 ≤ 7293034; omega⟩) hP hS (fun H locs hP hS => ?_)
      refine lv_iload hx hb dL_law_472 (lv_at hl 1 rfl) ?_
      refine lv_icmp_eq (tgt := 479) hx hb dL_law_474 (by decide) (fun _ => ?_) (fun c9 => absurd c9 (by decide))
      refine lv_iload hx hb dL_law_479 (lv_at hl 1 rfl) ?_
      refine lv_if_ne (tgt := 496) hx hb dL_law_481 (by decide) (fun _ => ?_) (fun c9 => absurd c9 (by decide))
      refine lv_goto (tgt := 974) hx hb dL_law_496 (by decide) ?_
      refine K _ _ _ ⟨k, tn, own, oth, mm, kk, ao, aq, mk, wn, cnt, lo, lq, 1, wf, wb, Af, lf, hf, tf, gf, ef, ff, u0, u9, dF, ⟨hk1, hsd, hO, hQ, hkk, htb, hmk, hmm, hwn, hhas, hrow, hl1, hl2, htf, hff⟩, hP⟩ hS (lv_sub hl [2, 3, 4, 5, 6, 7] rfl)

set_option maxHeartbeats 4000000 in
set_option maxRecDepth 100000 in
theorem law_worth {p : Program} {l : Launch} {e : Env} {s : State} {m : MethodId} {args : Array Value} {below : List Frame} {meth : Method} {c : Code} {Q : State → Prop} {dC : Nat → ClassId} {dI : Nat → Nat → Nat} {cyI cyJ cyD : ClassId} {b L tb ax a0 a1 ae at_ aw bx bl ba bt bg be bf bw bs bm bn bb bu bh aL aD : Nat} {xs : Nat → Int32} (E0 : zLE p l s m args c dC dI cyI cyJ cyD b L tb ax a0 a1 ae at_ aw bx bl ba bt bg be bf bw bs bm bn bb bu bh aL aD xs) (j : Nat) (hj : 4 * j + 4 ≤ L) {H : Heap} {locs : List Loc} (hI : zInv dC dI cyI cyJ cyD ax a0 a1 ae at_ aw bx bl ba bt bg be bf bw bs bm bn bb bu bh aL aD H) (hS : va_S (fun q : Nat => s.heap.size ≤ q) s.heap H locs) {ls : Array Slot} (hl : lv_has ls 9 [(5, .int (nI (4 * j))), (4, .ref aD), (3, .ref aL), (2, .ref bx), (1, .ref ax), (0, .ref b)])
    (K : ∀ (H : Heap) (locs : List Loc) (ls : Array Slot), zInv dC dI cyI cyJ cyD ax a0 a1 ae at_ aw bx bl ba bt bg be bf bw bs bm bn bb bu bh aL aD H → va_S (fun q : Nat => s.heap.size ≤ q) s.heap H locs → lv_has ls 9 [(5, .int (nI (4 * j))), (4, .ref aD), (3, .ref aL), (2, .ref bx), (1, .ref ax), (0, .ref b)] → W p l e room_1 s m args below meth c H locs (22 + 4 * (j + 1)) (14465 + 24 * (j + 1)) Q (F0 m 974 ls [])) : W p l e room_1 s m args below meth c H locs (22 + 4 * j) (14465 + 24 * j) Q (F0 m 613 ls []) := by
  obtain ⟨hx, hb, hml, hown, hts, hX, hbl, hLL, hl0, hK3, hH, hAl⟩ := E0
  have hK := hK3.sub (tys' := [(cyI, .int), (cyJ, .long)]) [0, 1] rfl
  have hbA : ¬ (fun q : Nat => s.heap.size ≤ q) b := Nat.not_le.mpr hbl
  obtain ⟨k, tn, own, oth, mm, kk, ao, aq, mk, wn, cnt, lo, lq, thr, wf, wb, Af, lf, hf, tf, gf, ef, ff, u0, oF, dF, ⟨hk1, hsd, hO, hQ, hkk, htb, hmk, hmm, hwn, hhas, hrow, hl1, hl2, htf, hff⟩, hP⟩ := hI
  have hDD := zD_side hsd hAl
  have htn := zSd_le hsd
  obtain ⟨v1, hv1⟩ : ∃ v, v = xs (4 * j + 1) := ⟨_, rfl⟩
  refine lv_aload_n hx hb dL_law_613 rfl (lv_at hl 4 rfl) ?_
  refine lv_aload_n hx hb dL_law_614 rfl (lv_at hl 5 rfl) ?_
  refine lv_iload hx hb dL_law_615 (lv_at hl 0 rfl) ?_
  refine lv_iconst (v := 1) hx hb dL_law_617 (by decide) ?_
  refine lv_iadd hx hb dL_law_618 ?_
  refine zz_i (y := nI (4 * j + 1)) (nI_add (4 * j) 1) ?_
  refine va_sld hx hb hX hbl hbA hS (vp_in_nI (n := 4 * j + 1) (by omega) (by omega)) dL_law_619 ?_
  refine zz_i (y := v1) (by rw [nI_clamp (by omega), hv1]) ?_
  refine lv_aload_n hx hb dL_law_620 rfl (lv_at hl 2 rfl) ?_
  refine zlw_i (vx_runSX (As := [.ref ax, .int v1, .ref aL]) (rest := []) ⟨hx, hb, hml, hown, hts⟩ (c_L_worth l hl0 dC dI cyI cyJ tb ax a0 a1 ae aw at_ ao aq mk wn cnt lo lq wf k kk tn own oth mm hsd hO hQ hk1 hkk htb hmk hmm v1 aL oF (z_nd hDD.1 [0, 1, 2, 3, 4, 20] (by decide) rfl)) (vx_cwSW 3 hts gL_law_L_worth rfl rfl rfl (by decide +kernel) ⟨Nat.le_of_ble_eq_true rfl, Nat.le_of_ble_eq_true rfl⟩) (zPc_S zB_H hP hK [0, 1, 2, 3, 4, 20] rfl (zH_at hH hS (fun q hq => hDD.2 q (zA_pl [0, 1, 2, 3, 4, 20] rfl q hq)))) rfl rfl hl.1 rfl (lv_room (Nat.le_of_ble_eq_true rfl)) dL_law_621 ⟨by show 22 + 4 * j + 1 ≤ 601024; omega, by show 14465 + 24 * j + 6 ≤ 7293034; omega⟩) hP hDD hS [0, 1, 2, 3, 4, 20] rfl (fun u => by rcases u with ⟨_ | _, _⟩ <;> rfl) (fun r9 u9 H locs hw hP hS => ?_)
  refine W.widen (k := 22 + 4 * (j + 1)) (n := 14465 + 24 * (j + 1)) (by omega) (by omega) ?_
  obtain ⟨u8, oF⟩ := u9
  rcases hw with ⟨x8, r8, e8, rfl, hw, hout⟩ | ⟨e8, rfl, hw⟩
  · skip
    cases e8
    have hP : va_P (dC, dI) vwCl [(ax, .inr (2, [.ref a0, .ref a1, .ref ae, .ref aw, .int (nI k), .int (nI tn), .int mk, .int wn, .int cnt])), (ao, .inr (1, [.long (lN own), .int lo])), (aq, .inr (1, [.long (lN oth), .int lq])), (ae, .inr (0, [.ref at_, .int (nI x8.1)])), (at_, .inl (cyI, 13500, .inl x8.2)), (aw, .inl (cyI, 15, .inl wb)), (bx, .inr (3, [.int thr, .int (nI k), .int (nI tn), .int mk, .int wn, .int cnt, .ref bl, .ref ba, .ref bt, .ref bg, .ref be, .ref bf, .ref bw, .ref bs, .ref bm, .ref bn, .ref bb, .ref bu, .ref bh])), (bl, .inl (cyI, 2, .inl lf)), (ba, .inl (cyI, 32, .inl Af)), (bt, .inl (cyI, 5, .inl tf)), (bg, .inl (cyI, 225, .inl gf)), (be, .inl (cyI, 225, .inl ef)), (bf, .inl (cyI, 225, .inl ff)), (bw, .inl (cyI, 160, .inl u0.1)), (bs, .inl (cyI, 5, .inl u0.2.1)), (bm, .inl (cyI, 5, .inl u0.2.2.1)), (bn, .inl (cyI, 5, .inl u0.2.2.2.1)), (bb, .inl (cyI, 5, .inl u0.2.2.2.2.1)), (bu, .inl (cyJ, 5, .inr (.inl u0.2.2.2.2.2))), (bh, .inl (cyI, 15, .inl hf)), (aL, .inl (cyJ, 1, .inr (.inl oF))), (aD, .inl (cyD, 1, .inr (.inr (.inr (.inl dF)))))] H := hP
    refine lv_istore (lv' := [(6, .int 0), (5, .int (nI (4 * j))), (4, .ref aD), (3, .ref aL), (2, .ref bx), (1, .ref ax), (0, .ref b)]) hx hb dL_law_624 hl (by decide) rfl (fun ls hl => ?_)
    refine lv_aload_n hx hb dL_law_626 rfl (lv_at hl 4 rfl) ?_
    refine lv_aload_n hx hb dL_law_627 rfl (lv_at hl 6 rfl) ?_
    refine lv_iload hx hb dL_law_628 (lv_at hl 1 rfl) ?_
    refine lv_iconst (v := 1) hx hb dL_law_630 (by decide) ?_
    refine lv_iadd hx hb dL_law_631 ?_
    refine zz_i (y := nI (4 * j + 1)) (nI_add (4 * j) 1) ?_
    refine va_sld hx hb hX hbl hbA hS (vp_in_nI (n := 4 * j + 1) (by omega) (by omega)) dL_law_632 ?_
    refine zz_i (y := v1) (by rw [nI_clamp (by omega), hv1]) ?_
    refine zrw_i (w1 := fun u : Int32 × (Nat → Int32) × zU => [(bx, .inr (3, [.int u.1, .int (nI k), .int (nI tn), .int mk, .int wn, .int cnt, .ref bl, .ref ba, .ref bt, .ref bg, .ref be, .ref bf, .ref bw, .ref bs, .ref bm, .ref bn, .ref bb, .ref bu, .ref bh])), (ba, .inl (cyI, 32, .inl Af)), (bh, .inl (cyI, 15, .inl u.2.1)), (bt, .inl (cyI, 5, .inl tf)), (bf, .inl (cyI, 225, .inl ff)), (bw, .inl (cyI, 160, .inl u.2.2.1)), (bs, .inl (cyI, 5, .inl u.2.2.2.1)), (bm, .inl (cyI, 5, .inl u.2.2.2.2.1)), (bn, .inl (cyI, 5, .inl u.2.2.2.2.2.1)), (bb, .inl (cyI, 5, .inl u.2.2.2.2.2.2.1)), (bu, .inl (cyJ, 5, .inr (.inl u.2.2.2.2.2.2.2)))]) (al := [bx, ba, bh, bt, bf, bw, bs, bm, bn, bb, bu]) (va_runV (As := [.int v1]) (rest := []) ⟨hx, hb, hml, hown, hts⟩ (c_X6_worth l dC dI cyI cyJ k hk1 bx bl ba bt bg be bf bw bs bm bn bb bu bh thr mk wn cnt tf ff Af hf htf hff u0 tn own oth mm htn hO hQ hrow hmk hmm hhas v1 (z_nd hDD.1 [6, 8, 19, 9, 12, 13, 14, 15, 16, 17, 18] (by decide) rfl)) (cwV 1 hts gL_law_X6_worth rfl rfl rfl (by decide +kernel) ⟨Nat.le_of_ble_eq_true rfl, Nat.le_of_ble_eq_true rfl⟩) (zPc_V (ci := 3) (q0 := 6) zB_T hP hK rfl rfl [6, 8, 19, 9, 12, 13, 14, 15, 16, 17, 18] rfl (fun _ _ _ => trivial)) rfl rfl hl.1 rfl (lv_room (Nat.le_of_ble_eq_true rfl)) dL_law_633 ⟨by show 22 + 4 * (j + 1) + 0 ≤ 601024; omega, by show 14465 + 24 * (j + 1) + 0 ≤ 7293034; omega⟩) hP hDD hS [6, 8, 19, 9, 12, 13, 14, 15, 16, 17, 18] rfl (fun _ => rfl) (fun r7 u7 H locs h7 hP hS => ?_)
    have hP : va_P (dC, dI) vwCl [(ax, .inr (2, [.ref a0, .ref a1, .ref ae, .ref aw, .int (nI k), .int (nI tn), .int mk, .int wn, .int cnt])), (ao, .inr (1, [.long (lN own), .int lo])), (aq, .inr (1, [.long (lN oth), .int lq])), (ae, .inr (0, [.ref at_, .int (nI x8.1)])), (at_, .inl (cyI, 13500, .inl x8.2)), (aw, .inl (cyI, 15, .inl wb)), (bx, .inr (3, [.int u7.1, .int (nI k), .int (nI tn), .int mk, .int wn, .int cnt, .ref bl, .ref ba, .ref bt, .ref bg, .ref be, .ref bf, .ref bw, .ref bs, .ref bm, .ref bn, .ref bb, .ref bu, .ref bh])), (bl, .inl (cyI, 2, .inl lf)), (ba, .inl (cyI, 32, .inl Af)), (bt, .inl (cyI, 5, .inl tf)), (bg, .inl (cyI, 225, .inl gf)), (be, .inl (cyI, 225, .inl ef)), (bf, .inl (cyI, 225, .inl ff)), (bw, .inl (cyI, 160, .inl u7.2.2.1)), (bs, .inl (cyI, 5, .inl u7.2.2.2.1)), (bm, .inl (cyI, 5, .inl u7.2.2.2.2.1)), (bn, .inl (cyI, 5, .inl u7.2.2.2.2.2.1)), (bb, .inl (cyI, 5, .inl u7.2.2.2.2.2.2.1)), (bu, .inl (cyJ, 5, .inr (.inl u7.2.2.2.2.2.2.2))), (bh, .inl (cyI, 15, .inl u7.2.1)), (aL, .inl (cyJ, 1, .inr (.inl oF))), (aD, .inl (cyD, 1, .inr (.inr (.inr (.inl dF)))))] H := hP
    rcases h7 with ⟨e7, h7⟩ | ⟨e7, h7⟩
    · skip
      have e7 : u7.1 = 0 := e7
      rw [e7] at hP
      have hP : va_P (dC, dI) vwCl [(ax, .inr (2, [.ref a0, .ref a1, .ref ae, .ref aw, .int (nI k), .int (nI tn), .int mk, .int wn, .int cnt])), (ao, .inr (1, [.long (lN own), .int lo])), (aq, .inr (1, [.long (lN oth), .int lq])), (ae, .inr (0, [.ref at_, .int (nI x8.1)])), (at_, .inl (cyI, 13500, .inl x8.2)), (aw, .inl (cyI, 15, .inl wb)), (bx, .inr (3, [.int 0, .int (nI k), .int (nI tn), .int mk, .int wn, .int cnt, .ref bl, .ref ba, .ref bt, .ref bg, .ref be, .ref bf, .ref bw, .ref bs, .ref bm, .ref bn, .ref bb, .ref bu, .ref bh])), (bl, .inl (cyI, 2, .inl lf)), (ba, .inl (cyI, 32, .inl Af)), (bt, .inl (cyI, 5, .inl tf)), (bg, .inl (cyI, 225, .inl gf)), (be, .inl (cyI, 225, .inl ef)), (bf, .inl (cyI, 225, .inl ff)), (bw, .inl (cyI, 160, .inl u7.2.2.1)), (bs, .inl (cyI, 5, .inl u7.2.2.2.1)), (bm, .inl (cyI, 5, .inl u7.2.2.2.2.1)), (bn, .inl (cyI, 5, .inl u7.2.2.2.2.2.1)), (bb, .inl (cyI, 5, .inl u7.2.2.2.2.2.2.1)), (bu, .inl (cyJ, 5, .inr (.inl u7.2.2.2.2.2.2.2))), (bh, .inl (cyI, 15, .inl u7.2.1)), (aL, .inl (cyJ, 1, .inr (.inl oF))), (aD, .inl (cyD, 1, .inr (.inr (.inr (.inl dF)))))] H := hP
      obtain ⟨xN, h1, h2, hT8, hK8, h3⟩ := hw
      obtain ⟨xM, g1, g2, g3⟩ := h7
      obtain rfl : xN = xM := (nI_eq (by omega) (by omega)).mp (h2.symm.trans g2)
      have hout8 : oF 0 = (r7 : Int32).toInt64 := by rw [show oF 0 = _ from hout, h3, g3]
      refine lv_istore (lv' := [(7, .int r7), (6, .int 0), (5, .int (nI (4 * j))), (4, .ref aD), (3, .ref aL), (2, .ref bx), (1, .ref ax), (0, .ref b)]) hx hb dL_law_636 hl (by decide) rfl (fun ls hl => ?_)
      refine lv_aload_n hx hb dL_law_638 rfl (lv_at hl 5 rfl) ?_
      refine zro_i (va_runV (As := []) (rest := []) ⟨hx, hb, hml, hown, hts⟩ (c_X6_thrown l dC dI cyI cyJ (nI k) bx bl ba bt bg be bf bw bs bm bn bb bu bh 0 (nI tn) mk wn cnt) (cwV 0 hts gL_law_X6_thrown rfl rfl rfl (by decide +kernel) ⟨Nat.le_of_ble_eq_true rfl, Nat.le_of_ble_eq_true rfl⟩) (zPc_V (ci := 3) (q0 := 6) zB_T hP hK rfl rfl [6] rfl (fun _ _ _ => trivial)) rfl rfl hl.1 rfl (lv_room (Nat.le_of_ble_eq_true rfl)) dL_law_639 ⟨by show 22 + 4 * (j + 1) + 0 ≤ 601024; omega, by show 14465 + 24 * (j + 1) + 0 ≤ 7293034; omega⟩) hP hS (fun H locs hP hS => ?_)
      refine lv_iload hx hb dL_law_642 (lv_at hl 1 rfl) ?_
      refine lv_icmp_eq (tgt := 649) hx hb dL_law_644 (by decide) (fun _ => ?_) (fun c9 => absurd c9 (by decide))
      refine lv_iload hx hb dL_law_649 (lv_at hl 1 rfl) ?_
      refine lv_if_ne (tgt := 666) hx hb dL_law_651 (by decide) (fun c9 => absurd c9 (by decide)) (fun _ => ?_)
      refine lv_aload_n hx hb dL_law_654 rfl (lv_at hl 4 rfl) ?_
      refine lv_iconst (v := 0) hx hb dL_law_655 (by decide) ?_
      refine zi_lald hx hb hK hP 20 1 rfl rfl (j := 0) rfl (by omega) (by decide) dL_law_656 ?_
      refine zz_l (y := (r7 : Int32).toInt64) hout8 ?_
      refine lv_iload hx hb dL_law_657 (lv_at hl 0 rfl) ?_
      refine lv_i2l (v := (r7 : Int32).toInt64) hx hb dL_law_659 rfl ?_
      refine W.lcmp hx hb dL_law_660 ?_
      refine zz_i (y := 0) (lg_same _) ?_
      refine lv_if_eq (tgt := 666) hx hb dL_law_661 (by decide) (fun _ => ?_) (fun c9 => absurd c9 (by decide))
      refine lv_goto (tgt := 974) hx hb dL_law_666 (by decide) ?_
      refine K _ _ _ ⟨k, tn, own, oth, mm, x8.1, ao, aq, mk, wn, cnt, lo, lq, 0, x8.2, wb, Af, lf, u7.2.1, tf, gf, ef, ff, u7.2.2, oF, dF, ⟨hk1, hsd, hO, hQ, hK8, hT8, hmk, hmm, hwn, hhas, hrow, hl1, hl2, htf, hff⟩, hP⟩ hS (lv_sub hl [2, 3, 4, 5, 6, 7] rfl)
    · skip
      obtain ⟨xN, h1, h2, hT8, hK8, h3⟩ := hw
      exact absurd ((zin_iff (n := 3) (by decide)).mpr ⟨xN, h1, h2⟩) h7
  · skip
    cases e8
    have hP : va_P (dC, dI) vwCl [(ax, .inr (2, [.ref a0, .ref a1, .ref ae, .ref aw, .int (nI k), .int (nI tn), .int mk, .int wn, .int cnt])), (ao, .inr (1, [.long (lN own), .int lo])), (aq, .inr (1, [.long (lN oth), .int lq])), (ae, .inr (0, [.ref at_, .int (nI kk)])), (at_, .inl (cyI, 13500, .inl wf)), (aw, .inl (cyI, 15, .inl wb)), (bx, .inr (3, [.int thr, .int (nI k), .int (nI tn), .int mk, .int wn, .int cnt, .ref bl, .ref ba, .ref bt, .ref bg, .ref be, .ref bf, .ref bw, .ref bs, .ref bm, .ref bn, .ref bb, .ref bu, .ref bh])), (bl, .inl (cyI, 2, .inl lf)), (ba, .inl (cyI, 32, .inl Af)), (bt, .inl (cyI, 5, .inl tf)), (bg, .inl (cyI, 225, .inl gf)), (be, .inl (cyI, 225, .inl ef)), (bf, .inl (cyI, 225, .inl ff)), (bw, .inl (cyI, 160, .inl u0.1)), (bs, .inl (cyI, 5, .inl u0.2.1)), (bm, .inl (cyI, 5, .inl u0.2.2.1)), (bn, .inl (cyI, 5, .inl u0.2.2.2.1)), (bb, .inl (cyI, 5, .inl u0.2.2.2.2.1)), (bu, .inl (cyJ, 5, .inr (.inl u0.2.2.2.2.2))), (bh, .inl (cyI, 15, .inl hf)), (aL, .inl (cyJ, 1, .inr (.inl oF))), (aD, .inl (cyD, 1, .inr (.inr (.inr (.inl dF)))))] H := hP
    refine lv_istore (lv' := [(6, .int 1), (5, .int (nI (4 * j))), (4, .ref aD), (3, .ref aL), (2, .ref bx), (1, .ref ax), (0, .ref b)]) hx hb dL_law_624 hl (by decide) rfl (fun ls hl => ?_)
    refine lv_aload_n hx hb dL_law_626 rfl (lv_at hl 4 rfl) ?_
    refine lv_aload_n hx hb dL_law_627 rfl (lv_at hl 6 rfl) ?_
    refine lv_iload hx hb dL_law_628 (lv_at hl 1 rfl) ?_
    refine lv_iconst (v := 1) hx hb dL_law_630 (by decide) ?_
    refine lv_iadd hx hb dL_law_631 ?_
    refine zz_i (y := nI (4 * j + 1)) (nI_add (4 * j) 1) ?_
    refine va_sld hx hb hX hbl hbA hS (vp_in_nI (n := 4 * j + 1) (by omega) (by omega)) dL_law_632 ?_
    refine zz_i (y := v1) (by rw [nI_clamp (by omega), hv1]) ?_
    refine zrw_i (w1 := fun u : Int32 × (Nat → Int32) × zU => [(bx, .inr (3, [.int u.1, .int (nI k), .int (nI tn), .int mk, .int wn, .int cnt, .ref bl, .ref ba, .ref bt, .ref bg, .ref be, .ref bf, .ref bw, .ref bs, .ref bm, .ref bn, .ref bb, .ref bu, .ref bh])), (ba, .inl (cyI, 32, .inl Af)), (bh, .inl (cyI, 15, .inl u.2.1)), (bt, .inl (cyI, 5, .inl tf)), (bf, .inl (cyI, 225, .inl ff)), (bw, .inl (cyI, 160, .inl u.2.2.1)), (bs, .inl (cyI, 5, .inl u.2.2.2.1)), (bm, .inl (cyI, 5, .inl u.2.2.2.2.1)), (bn, .inl (cyI, 5, .inl u.2.2.2.2.2.1)), (bb, .inl (cyI, 5, .inl u.2.2.2.2.2.2.1)), (bu, .inl (cyJ, 5, .inr (.inl u.2.2.2.2.2.2.2)))]) (al := [bx, ba, bh, bt, bf, bw, bs, bm, bn, bb, bu]) (va_runV (As := [.int v1]) (rest := []) ⟨hx, hb, hml, hown, hts⟩ (c_X6_worth l dC dI cyI cyJ k hk1 bx bl ba bt bg be bf bw bs bm bn bb bu bh thr mk wn cnt tf ff Af hf htf hff u0 tn own oth mm htn hO hQ hrow hmk hmm hhas v1 (z_nd hDD.1 [6, 8, 19, 9, 12, 13, 14, 15, 16, 17, 18] (by decide) rfl)) (cwV 1 hts gL_law_X6_worth rfl rfl rfl (by decide +kernel) ⟨Nat.le_of_ble_eq_true rfl, Nat.le_of_ble_eq_true rfl⟩) (zPc_V (ci := 3) (q0 := 6) zB_T hP hK rfl rfl [6, 8, 19, 9, 12, 13, 14, 15, 16, 17, 18] rfl (fun _ _ _ => trivial)) rfl rfl hl.1 rfl (lv_room (Nat.le_of_ble_eq_true rfl)) dL_law_633 ⟨by show 22 + 4 * (j + 1) + 0 ≤ 601024; omega, by show 14465 + 24 * (j + 1) + 0 ≤ 7293034; omega⟩) hP hDD hS [6, 8, 19, 9, 12, 13, 14, 15, 16, 17, 18] rfl (fun _ => rfl) (fun r7 u7 H locs h7 hP hS => ?_)
    have hP : va_P (dC, dI) vwCl [(ax, .inr (2, [.ref a0, .ref a1, .ref ae, .ref aw, .int (nI k), .int (nI tn), .int mk, .int wn, .int cnt])), (ao, .inr (1, [.long (lN own), .int lo])), (aq, .inr (1, [.long (lN oth), .int lq])), (ae, .inr (0, [.ref at_, .int (nI kk)])), (at_, .inl (cyI, 13500, .inl wf)), (aw, .inl (cyI, 15, .inl wb)), (bx, .inr (3, [.int u7.1, .int (nI k), .int (nI tn), .int mk, .int wn, .int cnt, .ref bl, .ref ba, .ref bt, .ref bg, .ref be, .ref bf, .ref bw, .ref bs, .ref bm, .ref bn, .ref bb, .ref bu, .ref bh])), (bl, .inl (cyI, 2, .inl lf)), (ba, .inl (cyI, 32, .inl Af)), (bt, .inl (cyI, 5, .inl tf)), (bg, .inl (cyI, 225, .inl gf)), (be, .inl (cyI, 225, .inl ef)), (bf, .inl (cyI, 225, .inl ff)), (bw, .inl (cyI, 160, .inl u7.2.2.1)), (bs, .inl (cyI, 5, .inl u7.2.2.2.1)), (bm, .inl (cyI, 5, .inl u7.2.2.2.2.1)), (bn, .inl (cyI, 5, .inl u7.2.2.2.2.2.1)), (bb, .inl (cyI, 5, .inl u7.2.2.2.2.2.2.1)), (bu, .inl (cyJ, 5, .inr (.inl u7.2.2.2.2.2.2.2))), (bh, .inl (cyI, 15, .inl u7.2.1)), (aL, .inl (cyJ, 1, .inr (.inl oF))), (aD, .inl (cyD, 1, .inr (.inr (.inr (.inl dF)))))] H := hP
    rcases h7 with ⟨e7, h7⟩ | ⟨e7, h7⟩
    · skip
      obtain ⟨xN, h1, h2, g3⟩ := h7
      exact absurd ((zin_iff (n := 3) (by decide)).mpr ⟨xN, h1, h2⟩) hw
    · skip
      have e7 : u7.1 = 1 := e7
      rw [e7] at hP
      have hP : va_P (dC, dI) vwCl [(ax, .inr (2, [.ref a0, .ref a1, .ref ae, .ref aw, .int (nI k), .int (nI tn), .int mk, .int wn, .int cnt])), (ao, .inr (1, [.long (lN own), .int lo])), (aq, .inr (1, [.long (lN oth), .int lq])), (ae, .inr (0, [.ref at_, .int (nI kk)])), (at_, .inl (cyI, 13500, .inl wf)), (aw, .inl (cyI, 15, .inl wb)), (bx, .inr (3, [.int 1, .int (nI k), .int (nI tn), .int mk, .int wn, .int cnt, .ref bl, .ref ba, .ref bt, .ref bg, .ref be, .ref bf, .ref bw, .ref bs, .ref bm, .ref bn, .ref bb, .ref bu, .ref bh])), (bl, .inl (cyI, 2, .inl lf)), (ba, .inl (cyI, 32, .inl Af)), (bt, .inl (cyI, 5, .inl tf)), (bg, .inl (cyI, 225, .inl gf)), (be, .inl (cyI, 225, .inl ef)), (bf, .inl (cyI, 225, .inl ff)), (bw, .inl (cyI, 160, .inl u7.2.2.1)), (bs, .inl (cyI, 5, .inl u7.2.2.2.1)), (bm, .inl (cyI, 5, .inl u7.2.2.2.2.1)), (bn, .inl (cyI, 5, .inl u7.2.2.2.2.2.1)), (bb, .inl (cyI, 5, .inl u7.2.2.2.2.2.2.1)), (bu, .inl (cyJ, 5, .inr (.inl u7.2.2.2.2.2.2.2))), (bh, .inl (cyI, 15, .inl u7.2.1)), (aL, .inl (cyJ, 1, .inr (.inl oF))), (aD, .inl (cyD, 1, .inr (.inr (.inr (.inl dF)))))] H := hP
      refine lv_istore (lv' := [(7, .int r7), (6, .int 1), (5, .int (nI (4 * j))), (4, .ref aD), (3, .ref aL), (2, .ref bx), (1, .ref ax), (0, .ref b)]) hx hb dL_law_636 hl (by decide) rfl (fun ls hl => ?_)
      refine lv_aload_n hx hb dL_law_638 rfl (lv_at hl 5 rfl) ?_
      refine zro_i (va_runV (As := []) (rest := []) ⟨hx, hb, hml, hown, hts⟩ (c_X6_thrown l dC dI cyI cyJ (nI k) bx bl ba bt bg be bf bw bs bm bn bb bu bh 1 (nI tn) mk wn cnt) (cwV 0 hts gL_law_X6_thrown rfl rfl rfl (by decide +kernel) ⟨Nat.le_of_ble_eq_true rfl, Nat.le_of_ble_eq_true rfl⟩) (zPc_V (ci := 3) (q0 := 6) zB_T hP hK rfl rfl [6] rfl (fun _ _ _ => trivial)) rfl rfl hl.1 rfl (lv_room (Nat.le_of_ble_eq_true rfl)) dL_law_639 ⟨by show 22 + 4 * (j + 1) + 0 ≤ 601024; omega, by show 14465 + 24 * (j + 1) + 0 ≤ 7293034; omega⟩) hP hS (fun H locs hP hS => ?_)
      refine lv_iload hx hb dL_law_642 (lv_at hl 1 rfl) ?_
      refine lv_icmp_eq (tgt := 649) hx hb dL_law_644 (by decide) (fun _ => ?_) (fun c9 => absurd c9 (by decide))
      refine lv_iload hx hb dL_law_649 (lv_at hl 1 rfl) ?_
      refine lv_if_ne (tgt := 666) hx hb dL_law_651 (by decide) (fun _ => ?_) (fun c9 => absurd c9 (by decide))
      refine lv_goto (tgt := 974) hx hb dL_law_666 (by decide) ?_
      refine K _ _ _ ⟨k, tn, own, oth, mm, kk, ao, aq, mk, wn, cnt, lo, lq, 1, wf, wb, Af, lf, u7.2.1, tf, gf, ef, ff, u7.2.2, oF, dF, ⟨hk1, hsd, hO, hQ, hkk, htb, hmk, hmm, hwn, hhas, hrow, hl1, hl2, htf, hff⟩, hP⟩ hS (lv_sub hl [2, 3, 4, 5, 6, 7] rfl)

/-! the law: captures, ranks, endings -/
set_option maxHeartbeats 4000000 in
set_option maxRecDepth 100000 in
theorem law_captures {p : Program} {l : Launch} {e : Env} {s : State} {m : MethodId} {args : Array Value} {below : List Frame} {meth : Method} {c : Code} {Q : State → Prop} {dC : Nat → ClassId} {dI : Nat → Nat → Nat} {cyI cyJ cyD : ClassId} {b L tb ax a0 a1 ae at_ aw bx bl ba bt bg be bf bw bs bm bn bb bu bh aL aD : Nat} {xs : Nat → Int32} (E0 : zLE p l s m args c dC dI cyI cyJ cyD b L tb ax a0 a1 ae at_ aw bx bl ba bt bg be bf bw bs bm bn bb bu bh aL aD xs) (j : Nat) (hj : 4 * j + 4 ≤ L) {H : Heap} {locs : List Loc} (hI : zInv dC dI cyI cyJ cyD ax a0 a1 ae at_ aw bx bl ba bt bg be bf bw bs bm bn bb bu bh aL aD H) (hS : va_S (fun q : Nat => s.heap.size ≤ q) s.heap H locs) {ls : Array Slot} (hl : lv_has ls 9 [(5, .int (nI (4 * j))), (4, .ref aD), (3, .ref aL), (2, .ref bx), (1, .ref ax), (0, .ref b)])
    (K : ∀ (H : Heap) (locs : List Loc) (ls : Array Slot), zInv dC dI cyI cyJ cyD ax a0 a1 ae at_ aw bx bl ba bt bg be bf bw bs bm bn bb bu bh aL aD H → va_S (fun q : Nat => s.heap.size ≤ q) s.heap H locs → lv_has ls 9 [(5, .int (nI (4 * j))), (4, .ref aD), (3, .ref aL), (2, .ref bx), (1, .ref ax), (0, .ref b)] → W p l e room_1 s m args below meth c H locs (22 + 4 * (j + 1)) (14465 + 24 * (j + 1)) Q (F0 m 974 ls [])) : W p l e room_1 s m args below meth c H locs (22 + 4 * j) (14465 + 24 * j) Q (F0 m 550 ls []) := by
  obtain ⟨hx, hb, hml, hown, hts, hX, hbl, hLL, hl0, hK3, hH, hAl⟩ := E0
  have hK := hK3.sub (tys' := [(cyI, .int), (cyJ, .long)]) [0, 1] rfl
  have hbA : ¬ (fun q : Nat => s.heap.size ≤ q) b := Nat.not_le.mpr hbl
  obtain ⟨k, tn, own, oth, mm, kk, ao, aq, mk, wn, cnt, lo, lq, thr, wf, wb, Af, lf, hf, tf, gf, ef, ff, u0, oF, dF, ⟨hk1, hsd, hO, hQ, hkk, htb, hmk, hmm, hwn, hhas, hrow, hl1, hl2, htf, hff⟩, hP⟩ := hI
  have hDD := zD_side hsd hAl
  have htn := zSd_le hsd
  obtain ⟨v1, hv1⟩ : ∃ v, v = xs (4 * j + 1) := ⟨_, rfl⟩
  refine lv_aload_n hx hb dL_law_550 rfl (lv_at hl 4 rfl) ?_
  refine lv_aload_n hx hb dL_law_551 rfl (lv_at hl 5 rfl) ?_
  refine lv_iload hx hb dL_law_552 (lv_at hl 0 rfl) ?_
  refine lv_iconst (v := 1) hx hb dL_law_554 (by decide) ?_
  refine lv_iadd hx hb dL_law_555 ?_
  refine zz_i (y := nI (4 * j + 1)) (nI_add (4 * j) 1) ?_
  refine va_sld hx hb hX hbl hbA hS (vp_in_nI (n := 4 * j + 1) (by omega) (by omega)) dL_law_556 ?_
  refine zz_i (y := v1) (by rw [nI_clamp (by omega), hv1]) ?_
  refine lv_aload_n hx hb dL_law_557 rfl (lv_at hl 2 rfl) ?_
  refine zlw_i (vx_runSX (As := [.ref ax, .int v1, .ref aL]) (rest := []) ⟨hx, hb, hml, hown, hts⟩ (c_L_captures l hl0 dC dI cyI cyJ tb ax a0 a1 ae aw ao aq mk wn cnt lo lq k tn own oth mm hsd hO hQ hmk hmm v1 aL oF (z_nd hDD.1 [20] (by decide) rfl)) (vx_cwSW 3 hts gL_law_L_captures rfl rfl rfl (by decide +kernel) ⟨Nat.le_of_ble_eq_true rfl, Nat.le_of_ble_eq_true rfl⟩) (zPc_S zB_H hP hK [0, 1, 2, 20] rfl (zH_at hH hS (fun q hq => hDD.2 q (zA_pl [20] rfl q hq)))) rfl rfl hl.1 rfl (lv_room (Nat.le_of_ble_eq_true rfl)) dL_law_558 ⟨by show 22 + 4 * j + 1 ≤ 601024; omega, by show 14465 + 24 * j + 6 ≤ 7293034; omega⟩) hP hDD hS [20] rfl (fun _ => rfl) (fun r9 u9 H locs hw hP hS => ?_)
  refine W.widen (k := 22 + 4 * (j + 1)) (n := 14465 + 24 * (j + 1)) (by omega) (by omega) ?_
  have hu9 : u9 = u9 := rfl
  rcases hw with ⟨r8, rfl, hw, hout⟩ | ⟨rfl, hw⟩
  · skip
    have hP : va_P (dC, dI) vwCl [(ax, .inr (2, [.ref a0, .ref a1, .ref ae, .ref aw, .int (nI k), .int (nI tn), .int mk, .int wn, .int cnt])), (ao, .inr (1, [.long (lN own), .int lo])), (aq, .inr (1, [.long (lN oth), .int lq])), (ae, .inr (0, [.ref at_, .int (nI kk)])), (at_, .inl (cyI, 13500, .inl wf)), (aw, .inl (cyI, 15, .inl wb)), (bx, .inr (3, [.int thr, .int (nI k), .int (nI tn), .int mk, .int wn, .int cnt, .ref bl, .ref ba, .ref bt, .ref bg, .ref be, .ref bf, .ref bw, .ref bs, .ref bm, .ref bn, .ref bb, .ref bu, .ref bh])), (bl, .inl (cyI, 2, .inl lf)), (ba, .inl (cyI, 32, .inl Af)), (bt, .inl (cyI, 5, .inl tf)), (bg, .inl (cyI, 225, .inl gf)), (be, .inl (cyI, 225, .inl ef)), (bf, .inl (cyI, 225, .inl ff)), (bw, .inl (cyI, 160, .inl u0.1)), (bs, .inl (cyI, 5, .inl u0.2.1)), (bm, .inl (cyI, 5, .inl u0.2.2.1)), (bn, .inl (cyI, 5, .inl u0.2.2.2.1)), (bb, .inl (cyI, 5, .inl u0.2.2.2.2.1)), (bu, .inl (cyJ, 5, .inr (.inl u0.2.2.2.2.2))), (bh, .inl (cyI, 15, .inl hf)), (aL, .inl (cyJ, 1, .inr (.inl u9))), (aD, .inl (cyD, 1, .inr (.inr (.inr (.inl dF)))))] H := hP
    refine lv_istore (lv' := [(6, .int 0), (5, .int (nI (4 * j))), (4, .ref aD), (3, .ref aL), (2, .ref bx), (1, .ref ax), (0, .ref b)]) hx hb dL_law_561 hl (by decide) rfl (fun ls hl => ?_)
    refine lv_aload_n hx hb dL_law_563 rfl (lv_at hl 4 rfl) ?_
    refine lv_aload_n hx hb dL_law_564 rfl (lv_at hl 6 rfl) ?_
    refine lv_iload hx hb dL_law_565 (lv_at hl 1 rfl) ?_
    refine lv_iconst (v := 1) hx hb dL_law_567 (by decide) ?_
    refine lv_iadd hx hb dL_law_568 ?_
    refine zz_i (y := nI (4 * j + 1)) (nI_add (4 * j) 1) ?_
    refine va_sld hx hb hX hbl hbA hS (vp_in_nI (n := 4 * j + 1) (by omega) (by omega)) dL_law_569 ?_
    refine zz_i (y := v1) (by rw [nI_clamp (by omega), hv1]) ?_
    refine zrw_i (w1 := fun u : Int32 => [(bx, .inr (3, [.int u, .int (nI k), .int (nI tn), .int mk, .int wn, .int cnt, .ref bl, .ref ba, .ref bt, .ref bg, .ref be, .ref bf, .ref bw, .ref bs, .ref bm, .ref bn, .ref bb, .ref bu, .ref bh])), (ba, .inl (cyI, 32, .inl Af))]) (al := [bx, ba]) (va_runV (As := [.int v1]) (rest := []) ⟨hx, hb, hml, hown, hts⟩ (c_X6_captures l dC dI cyI cyJ k bx bl ba bt bg be bf bw bs bm bn bb bu bh thr mk wn cnt Af tn own oth mm htn hrow hmk hmm v1 (z_nd hDD.1 [6, 8] (by decide) rfl)) (cwV 1 hts gL_law_X6_captures rfl rfl rfl (by decide +kernel) ⟨Nat.le_of_ble_eq_true rfl, Nat.le_of_ble_eq_true rfl⟩) (zPc_V (ci := 3) (q0 := 6) zB_T hP hK rfl rfl [6, 8] rfl (fun _ _ _ => trivial)) rfl rfl hl.1 rfl (lv_room (Nat.le_of_ble_eq_true rfl)) dL_law_570 ⟨by show 22 + 4 * (j + 1) + 0 ≤ 601024; omega, by show 14465 + 24 * (j + 1) + 0 ≤ 7293034; omega⟩) hP hDD hS [6, 8] rfl (fun _ => rfl) (fun r7 u7 H locs h7 hP hS => ?_)
    have hP : va_P (dC, dI) vwCl [(ax, .inr (2, [.ref a0, .ref a1, .ref ae, .ref aw, .int (nI k), .int (nI tn), .int mk, .int wn, .int cnt])), (ao, .inr (1, [.long (lN own), .int lo])), (aq, .inr (1, [.long (lN oth), .int lq])), (ae, .inr (0, [.ref at_, .int (nI kk)])), (at_, .inl (cyI, 13500, .inl wf)), (aw, .inl (cyI, 15, .inl wb)), (bx, .inr (3, [.int u7, .int (nI k), .int (nI tn), .int mk, .int wn, .int cnt, .ref bl, .ref ba, .ref bt, .ref bg, .ref be, .ref bf, .ref bw, .ref bs, .ref bm, .ref bn, .ref bb, .ref bu, .ref bh])), (bl, .inl (cyI, 2, .inl lf)), (ba, .inl (cyI, 32, .inl Af)), (bt, .inl (cyI, 5, .inl tf)), (bg, .inl (cyI, 225, .inl gf)), (be, .inl (cyI, 225, .inl ef)), (bf, .inl (cyI, 225, .inl ff)), (bw, .inl (cyI, 160, .inl u0.1)), (bs, .inl (cyI, 5, .inl u0.2.1)), (bm, .inl (cyI, 5, .inl u0.2.2.1)), (bn, .inl (cyI, 5, .inl u0.2.2.2.1)), (bb, .inl (cyI, 5, .inl u0.2.2.2.2.1)), (bu, .inl (cyJ, 5, .inr (.inl u0.2.2.2.2.2))), (bh, .inl (cyI, 15, .inl hf)), (aL, .inl (cyJ, 1, .inr (.inl u9))), (aD, .inl (cyD, 1, .inr (.inr (.inr (.inl dF)))))] H := hP
    rcases h7 with ⟨e7, h7⟩ | ⟨e7, h7⟩
    · skip
      have e7 : u7 = 0 := e7
      rw [e7] at hP
      have hP : va_P (dC, dI) vwCl [(ax, .inr (2, [.ref a0, .ref a1, .ref ae, .ref aw, .int (nI k), .int (nI tn), .int mk, .int wn, .int cnt])), (ao, .inr (1, [.long (lN own), .int lo])), (aq, .inr (1, [.long (lN oth), .int lq])), (ae, .inr (0, [.ref at_, .int (nI kk)])), (at_, .inl (cyI, 13500, .inl wf)), (aw, .inl (cyI, 15, .inl wb)), (bx, .inr (3, [.int 0, .int (nI k), .int (nI tn), .int mk, .int wn, .int cnt, .ref bl, .ref ba, .ref bt, .ref bg, .ref be, .ref bf, .ref bw, .ref bs, .ref bm, .ref bn, .ref bb, .ref bu, .ref bh])), (bl, .inl (cyI, 2, .inl lf)), (ba, .inl (cyI, 32, .inl Af)), (bt, .inl (cyI, 5, .inl tf)), (bg, .inl (cyI, 225, .inl gf)), (be, .inl (cyI, 225, .inl ef)), (bf, .inl (cyI, 225, .inl ff)), (bw, .inl (cyI, 160, .inl u0.1)), (bs, .inl (cyI, 5, .inl u0.2.1)), (bm, .inl (cyI, 5, .inl u0.2.2.1)), (bn, .inl (cyI, 5, .inl u0.2.2.2.1)), (bb, .inl (cyI, 5, .inl u0.2.2.2.2.1)), (bu, .inl (cyJ, 5, .inr (.inl u0.2.2.2.2.2))), (bh, .inl (cyI, 15, .inl hf)), (aL, .inl (cyJ, 1, .inr (.inl u9))), (aD, .inl (cyD, 1, .inr (.inr (.inr (.inl dF)))))] H := hP
      obtain ⟨xN, h1, h2, h3⟩ := hw
      obtain ⟨xM, g1, g2, g3⟩ := h7
      obtain rfl : xN = xM := (nI_eq (by omega) (by omega)).mp (h2.symm.trans g2)
      have hout8 : u9 0 = (if r7 = 0 then 0 else 1) := by rw [hout, h3, g3]
      refine lv_istore (lv' := [(7, .int r7), (6, .int 0), (5, .int (nI (4 * j))), (4, .ref aD), (3, .ref aL), (2, .ref bx), (1, .ref ax), (0, .ref b)]) hx hb dL_law_573 hl (by decide) rfl (fun ls hl => ?_)
      refine lv_aload_n hx hb dL_law_575 rfl (lv_at hl 5 rfl) ?_
      refine zro_i (va_runV (As := []) (rest := []) ⟨hx, hb, hml, hown, hts⟩ (c_X6_thrown l dC dI cyI cyJ (nI k) bx bl ba bt bg be bf bw bs bm bn bb bu bh 0 (nI tn) mk wn cnt) (cwV 0 hts gL_law_X6_thrown rfl rfl rfl (by decide +kernel) ⟨Nat.le_of_ble_eq_true rfl, Nat.le_of_ble_eq_true rfl⟩) (zPc_V (ci := 3) (q0 := 6) zB_T hP hK rfl rfl [6] rfl (fun _ _ _ => trivial)) rfl rfl hl.1 rfl (lv_room (Nat.le_of_ble_eq_true rfl)) dL_law_576 ⟨by show 22 + 4 * (j + 1) + 0 ≤ 601024; omega, by show 14465 + 24 * (j + 1) + 0 ≤ 7293034; omega⟩) hP hS (fun H locs hP hS => ?_)
      refine lv_iload hx hb dL_law_579 (lv_at hl 1 rfl) ?_
      refine lv_icmp_eq (tgt := 586) hx hb dL_law_581 (by decide) (fun _ => ?_) (fun c9 => absurd c9 (by decide))
      refine lv_iload hx hb dL_law_586 (lv_at hl 1 rfl) ?_
      refine lv_if_ne (tgt := 610) hx hb dL_law_588 (by decide) (fun c9 => absurd c9 (by decide)) (fun _ => ?_)
      refine lv_aload_n hx hb dL_law_591 rfl (lv_at hl 4 rfl) ?_
      refine lv_iconst (v := 0) hx hb dL_law_592 (by decide) ?_
      refine zi_lald hx hb hK hP 20 1 rfl rfl (j := 0) rfl (by omega) (by decide) dL_law_593 ?_
      refine lv_iload hx hb dL_law_594 (lv_at hl 0 rfl) ?_
      refine lv_if_eq (tgt := 603) hx hb dL_law_596 (by decide) (fun c_596 => ?_) (fun c_596 => ?_)
      · skip
        refine lv_lconst (v := 0) hx hb dL_law_603 (by decide) ?_
        refine W.lcmp hx hb dL_law_604 ?_
        refine zz_i (y := 0) (by rw [hout8, if_pos c_596]; exact lg_same _) ?_
        refine lv_if_eq (tgt := 610) hx hb dL_law_605 (by decide) (fun _ => ?_) (fun c9 => absurd c9 (by decide))
        refine lv_goto (tgt := 974) hx hb dL_law_610 (by decide) ?_
        refine K _ _ _ ⟨k, tn, own, oth, mm, kk, ao, aq, mk, wn, cnt, lo, lq, 0, wf, wb, Af, lf, hf, tf, gf, ef, ff, u0, u9, dF, ⟨hk1, hsd, hO, hQ, hkk, htb, hmk, hmm, hwn, hhas, hrow, hl1, hl2, htf, hff⟩, hP⟩ hS (lv_sub hl [2, 3, 4, 5, 6, 7] rfl)
      · skip
        refine lv_lconst (v := 1) hx hb dL_law_599 (by decide) ?_
        refine lv_goto (tgt := 604) hx hb dL_law_600 (by decide) ?_
        refine W.lcmp hx hb dL_law_604 ?_
        refine zz_i (y := 0) (by rw [hout8, if_neg c_596]; exact lg_same _) ?_
        refine lv_if_eq (tgt := 610) hx hb dL_law_605 (by decide) (fun _ => ?_) (fun c9 => absurd c9 (by decide))
        refine lv_goto (tgt := 974) hx hb dL_law_610 (by decide) ?_
        refine K _ _ _ ⟨k, tn, own, oth, mm, kk, ao, aq, mk, wn, cnt, lo, lq, 0, wf, wb, Af, lf, hf, tf, gf, ef, ff, u0, u9, dF, ⟨hk1, hsd, hO, hQ, hkk, htb, hmk, hmm, hwn, hhas, hrow, hl1, hl2, htf, hff⟩, hP⟩ hS (lv_sub hl [2, 3, 4, 5, 6, 7] rfl)
    · skip
      obtain ⟨xN, h1, h2, h3⟩ := hw
      exact absurd ((zin_iff (n := 14) (by decide)).mpr ⟨xN, h1, h2⟩) h7
  · skip
    have hP : va_P (dC, dI) vwCl [(ax, .inr (2, [.ref a0, .ref a1, .ref ae, .ref aw, .int (nI k), .int (nI tn), .int mk, .int wn, .int cnt])), (ao, .inr (1, [.long (lN own), .int lo])), (aq, .inr (1, [.long (lN oth), .int lq])), (ae, .inr (0, [.ref at_, .int (nI kk)])), (at_, .inl (cyI, 13500, .inl wf)), (aw, .inl (cyI, 15, .inl wb)), (bx, .inr (3, [.int thr, .int (nI k), .int (nI tn), .int mk, .int wn, .int cnt, .ref bl, .ref ba, .ref bt, .ref bg, .ref be, .ref bf, .ref bw, .ref bs, .ref bm, .ref bn, .ref bb, .ref bu, .ref bh])), (bl, .inl (cyI, 2, .inl lf)), (ba, .inl (cyI, 32, .inl Af)), (bt, .inl (cyI, 5, .inl tf)), (bg, .inl (cyI, 225, .inl gf)), (be, .inl (cyI, 225, .inl ef)), (bf, .inl (cyI, 225, .inl ff)), (bw, .inl (cyI, 160, .inl u0.1)), (bs, .inl (cyI, 5, .inl u0.2.1)), (bm, .inl (cyI, 5, .inl u0.2.2.1)), (bn, .inl (cyI, 5, .inl u0.2.2.2.1)), (bb, .inl (cyI, 5, .inl u0.2.2.2.2.1)), (bu, .inl (cyJ, 5, .inr (.inl u0.2.2.2.2.2))), (bh, .inl (cyI, 15, .inl hf)), (aL, .inl (cyJ, 1, .inr (.inl u9))), (aD, .inl (cyD, 1, .inr (.inr (.inr (.inl dF)))))] H := hP
    refine lv_istore (lv' := [(6, .int 1), (5, .int (nI (4 * j))), (4, .ref aD), (3, .ref aL), (2, .ref bx), (1, .ref ax), (0, .ref b)]) hx hb dL_law_561 hl (by decide) rfl (fun ls hl => ?_)
    refine lv_aload_n hx hb dL_law_563 rfl (lv_at hl 4 rfl) ?_
    refine lv_aload_n hx hb dL_law_564 rfl (lv_at hl 6 rfl) ?_
    refine lv_iload hx hb dL_law_565 (lv_at hl 1 rfl) ?_
    refine lv_iconst (v := 1) hx hb dL_law_567 (by decide) ?_
    refine lv_iadd hx hb dL_law_568 ?_
    refine zz_i (y := nI (4 * j + 1)) (nI_add (4 * j) 1) ?_
    refine va_sld hx hb hX hbl hbA hS (vp_in_nI (n := 4 * j + 1) (by omega) (by omega)) dL_law_569 ?_
    refine zz_i (y := v1) (by rw [nI_clamp (by omega), hv1]) ?_
    refine zrw_i (w1 := fun u : Int32 => [(bx, .inr (3, [.int u, .int (nI k), .int (nI tn), .int mk, .int wn, .int cnt, .ref bl, .ref ba, .ref bt, .ref bg, .ref be, .ref bf, .ref bw, .ref bs, .ref bm, .ref bn, .ref bb, .ref bu, .ref bh])), (ba, .inl (cyI, 32, .inl Af))]) (al := [bx, ba]) (va_runV (As := [.int v1]) (rest := []) ⟨hx, hb, hml, hown, hts⟩ (c_X6_captures l dC dI cyI cyJ k bx bl ba bt bg be bf bw bs bm bn bb bu bh thr mk wn cnt Af tn own oth mm htn hrow hmk hmm v1 (z_nd hDD.1 [6, 8] (by decide) rfl)) (cwV 1 hts gL_law_X6_captures rfl rfl rfl (by decide +kernel) ⟨Nat.le_of_ble_eq_true rfl, Nat.le_of_ble_eq_true rfl⟩) (zPc_V (ci := 3) (q0 := 6) zB_T hP hK rfl rfl [6, 8] rfl (fun _ _ _ => trivial)) rfl rfl hl.1 rfl (lv_room (Nat.le_of_ble_eq_true rfl)) dL_law_570 ⟨by show 22 + 4 * (j + 1) + 0 ≤ 601024; omega, by show 14465 + 24 * (j + 1) + 0 ≤ 7293034; omega⟩) hP hDD hS [6, 8] rfl (fun _ => rfl) (fun r7 u7 H locs h7 hP hS => ?_)
    have hP : va_P (dC, dI) vwCl [(ax, .inr (2, [.ref a0, .ref a1, .ref ae, .ref aw, .int (nI k), .int (nI tn), .int mk, .int wn, .int cnt])), (ao, .inr (1, [.long (lN own), .int lo])), (aq, .inr (1, [.long (lN oth), .int lq])), (ae, .inr (0, [.ref at_, .int (nI kk)])), (at_, .inl (cyI, 13500, .inl wf)), (aw, .inl (cyI, 15, .inl wb)), (bx, .inr (3, [.int u7, .int (nI k), .int (nI tn), .int mk, .int wn, .int cnt, .ref bl, .ref ba, .ref bt, .ref bg, .ref be, .ref bf, .ref bw, .ref bs, .ref bm, .ref bn, .ref bb, .ref bu, .ref bh])), (bl, .inl (cyI, 2, .inl lf)), (ba, .inl (cyI, 32, .inl Af)), (bt, .inl (cyI, 5, .inl tf)), (bg, .inl (cyI, 225, .inl gf)), (be, .inl (cyI, 225, .inl ef)), (bf, .inl (cyI, 225, .inl ff)), (bw, .inl (cyI, 160, .inl u0.1)), (bs, .inl (cyI, 5, .inl u0.2.1)), (bm, .inl (cyI, 5, .inl u0.2.2.1)), (bn, .inl (cyI, 5, .inl u0.2.2.2.1)), (bb, .inl (cyI, 5, .inl u0.2.2.2.2.1)), (bu, .inl (cyJ, 5, .inr (.inl u0.2.2.2.2.2))), (bh, .inl (cyI, 15, .inl hf)), (aL, .inl (cyJ, 1, .inr (.inl u9))), (aD, .inl (cyD, 1, .inr (.inr (.inr (.inl dF)))))] H := hP
    rcases h7 with ⟨e7, h7⟩ | ⟨e7, h7⟩
    · skip
      obtain ⟨xN, h1, h2, g3⟩ := h7
      exact absurd ((zin_iff (n := 14) (by decide)).mpr ⟨xN, h1, h2⟩) hw
    · skip
      have e7 : u7 = 1 := e7
      rw [e7] at hP
      have hP : va_P (dC, dI) vwCl [(ax, .inr (2, [.ref a0, .ref a1, .ref ae, .ref aw, .int (nI k), .int (nI tn), .int mk, .int wn, .int cnt])), (ao, .inr (1, [.long (lN own), .int lo])), (aq, .inr (1, [.long (lN oth), .int lq])), (ae, .inr (0, [.ref at_, .int (nI kk)])), (at_, .inl (cyI, 13500, .inl wf)), (aw, .inl (cyI, 15, .inl wb)), (bx, .inr (3, [.int 1, .int (nI k), .int (nI tn), .int mk, .int wn, .int cnt, .ref bl, .ref ba, .ref bt, .ref bg, .ref be, .ref bf, .ref bw, .ref bs, .ref bm, .ref bn, .ref bb, .ref bu, .ref bh])), (bl, .inl (cyI, 2, .inl lf)), (ba, .inl (cyI, 32, .inl Af)), (bt, .inl (cyI, 5, .inl tf)), (bg, .inl (cyI, 225, .inl gf)), (be, .inl (cyI, 225, .inl ef)), (bf, .inl (cyI, 225, .inl ff)), (bw, .inl (cyI, 160, .inl u0.1)), (bs, .inl (cyI, 5, .inl u0.2.1)), (bm, .inl (cyI, 5, .inl u0.2.2.1)), (bn, .inl (cyI, 5, .inl u0.2.2.2.1)), (bb, .inl (cyI, 5, .inl u0.2.2.2.2.1)), (bu, .inl (cyJ, 5, .inr (.inl u0.2.2.2.2.2))), (bh, .inl (cyI, 15, .inl hf)), (aL, .inl (cyJ, 1, .inr (.inl u9))), (aD, .inl (cyD, 1, .inr (.inr (.inr (.inl dF)))))] H := hP
      refine lv_istore (lv' := [(7, .int r7), (6, .int 1), (5, .int (nI (4 * j))), (4, .ref aD), (3, .ref aL), (2, .ref bx), (1, .ref ax), (0, .ref b)]) hx hb dL_law_573 hl (by decide) rfl (fun ls hl => ?_)
      refine lv_aload_n hx hb dL_law_575 rfl (lv_at hl 5 rfl) ?_
      refine zro_i (va_runV (As := []) (rest := []) ⟨hx, hb, hml, hown, hts⟩ (c_X6_thrown l dC dI cyI cyJ (nI k) bx bl ba bt bg be bf bw bs bm bn bb bu bh 1 (nI tn) mk wn cnt) (cwV 0 hts gL_law_X6_thrown rfl rfl rfl (by decide +kernel) ⟨Nat.le_of_ble_eq_true rfl, Nat.le_of_ble_eq_true rfl⟩) (zPc_V (ci := 3) (q0 := 6) zB_T hP hK rfl rfl [6] rfl (fun _ _ _ => trivial)) rfl rfl hl.1 rfl (lv_room (Nat.le_of_ble_eq_true rfl)) dL_law_576 ⟨by show 22 + 4 * (j + 1) + 0 ≤ 601024; omega, by show 14465 + 24 * (j + 1) + 0 ≤ 7293034; omega⟩) hP hS (fun H locs hP hS => ?_)
      refine lv_iload hx hb dL_law_579 (lv_at hl 1 rfl) ?_
      refine lv_icmp_eq (tgt := 586) hx hb dL_law_581 (by decide) (fun _ => ?_) (fun c9 => absurd c9 (by decide))
      refine lv_iload hx hb dL_law_586 (lv_at hl 1 rfl) ?_
      refine lv_if_ne (tgt := 610) hx hb dL_law_588 (by decide) (fun _ => ?_) (fun c9 => absurd c9 (by decide))
      refine lv_goto (tgt := 974) hx hb dL_law_610 (by decide) ?_
      refine K _ _ _ ⟨k, tn, own, oth, mm, kk, ao, aq, mk, wn, cnt, lo, lq, 1, wf, wb, Af, lf, hf, tf, gf, ef, ff, u0, u9, dF, ⟨hk1, hsd, hO, hQ, hkk, htb, hmk, hmm, hwn, hhas, hrow, hl1, hl2, htf, hff⟩, hP⟩ hS (lv_sub hl [2, 3, 4, 5, 6, 7] rfl)

set_option maxHeartbeats 4000000 in
set_option maxRecDepth 100000 in
theorem law_ranked {p : Program} {l : Launch} {e : Env} {s : State} {m : MethodId} {args : Array Value} {below : List Frame} {meth : Method} {c : Code} {Q : State → Prop} {dC : Nat → ClassId} {dI : Nat → Nat → Nat} {cyI cyJ cyD : ClassId} {b L tb ax a0 a1 ae at_ aw bx bl ba bt bg be bf bw bs bm bn bb bu bh aL aD : Nat} {xs : Nat → Int32} (E0 : zLE p l s m args c dC dI cyI cyJ cyD b L tb ax a0 a1 ae at_ aw bx bl ba bt bg be bf bw bs bm bn bb bu bh aL aD xs) (j : Nat) (hj : 4 * j + 4 ≤ L) {H : Heap} {locs : List Loc} (hI : zInv dC dI cyI cyJ cyD ax a0 a1 ae at_ aw bx bl ba bt bg be bf bw bs bm bn bb bu bh aL aD H) (hS : va_S (fun q : Nat => s.heap.size ≤ q) s.heap H locs) {ls : Array Slot} (hl : lv_has ls 9 [(5, .int (nI (4 * j))), (4, .ref aD), (3, .ref aL), (2, .ref bx), (1, .ref ax), (0, .ref b)])
    (K : ∀ (H : Heap) (locs : List Loc) (ls : Array Slot), zInv dC dI cyI cyJ cyD ax a0 a1 ae at_ aw bx bl ba bt bg be bf bw bs bm bn bb bu bh aL aD H → va_S (fun q : Nat => s.heap.size ≤ q) s.heap H locs → lv_has ls 9 [(5, .int (nI (4 * j))), (4, .ref aD), (3, .ref aL), (2, .ref bx), (1, .ref ax), (0, .ref b)] → W p l e room_1 s m args below meth c H locs (22 + 4 * (j + 1)) (14465 + 24 * (j + 1)) Q (F0 m 974 ls [])) : W p l e room_1 s m args below meth c H locs (22 + 4 * j) (14465 + 24 * j) Q (F0 m 746 ls []) := by
  obtain ⟨hx, hb, hml, hown, hts, hX, hbl, hLL, hl0, hK3, hH, hAl⟩ := E0
  have hK := hK3.sub (tys' := [(cyI, .int), (cyJ, .long)]) [0, 1] rfl
  have hbA : ¬ (fun q : Nat => s.heap.size ≤ q) b := Nat.not_le.mpr hbl
  obtain ⟨k, tn, own, oth, mm, kk, ao, aq, mk, wn, cnt, lo, lq, thr, wf, wb, Af, lf, hf, tf, gf, ef, ff, u0, oF, dF, ⟨hk1, hsd, hO, hQ, hkk, htb, hmk, hmm, hwn, hhas, hrow, hl1, hl2, htf, hff⟩, hP⟩ := hI
  have hDD := zD_side hsd hAl
  have htn := zSd_le hsd
  obtain ⟨v1, hv1⟩ : ∃ v, v = xs (4 * j + 1) := ⟨_, rfl⟩
  obtain ⟨v2, hv2⟩ : ∃ v, v = xs (4 * j + 2) := ⟨_, rfl⟩
  refine lv_aload_n hx hb dL_law_746 rfl (lv_at hl 4 rfl) ?_
  refine lv_aload_n hx hb dL_law_747 rfl (lv_at hl 5 rfl) ?_
  refine lv_iload hx hb dL_law_748 (lv_at hl 0 rfl) ?_
  refine lv_iconst (v := 1) hx hb dL_law_750 (by decide) ?_
  refine lv_iadd hx hb dL_law_751 ?_
  refine zz_i (y := nI (4 * j + 1)) (nI_add (4 * j) 1) ?_
  refine va_sld hx hb hX hbl hbA hS (vp_in_nI (n := 4 * j + 1) (by omega) (by omega)) dL_law_752 ?_
  refine zz_i (y := v1) (by rw [nI_clamp (by omega), hv1]) ?_
  refine lv_aload_n hx hb dL_law_753 rfl (lv_at hl 5 rfl) ?_
  refine lv_iload hx hb dL_law_754 (lv_at hl 0 rfl) ?_
  refine lv_iconst (v := 2) hx hb dL_law_756 (by decide) ?_
  refine lv_iadd hx hb dL_law_757 ?_
  refine zz_i (y := nI (4 * j + 2)) (nI_add (4 * j) 2) ?_
  refine va_sld hx hb hX hbl hbA hS (vp_in_nI (n := 4 * j + 2) (by omega) (by omega)) dL_law_758 ?_
  refine zz_i (y := v2) (by rw [nI_clamp (by omega), hv2]) ?_
  refine lv_aload_n hx hb dL_law_759 rfl (lv_at hl 2 rfl) ?_
  refine zlw_i (vx_runSX (As := [.ref ax, .int v1, .int v2, .ref aL]) (rest := []) ⟨hx, hb, hml, hown, hts⟩ (c_L_ranked l hl0 dC dI cyI cyJ tb ax a0 a1 ae aw at_ ao aq mk wn cnt lo lq wf wb k kk tn own oth mm hsd hO hQ hk1 hkk htb hmk hmm v1 v2 aL oF (z_nd hDD.1 [0, 1, 2, 3, 4, 5, 20] (by decide) rfl)) (vx_cwSW 4 hts gL_law_L_ranked rfl rfl rfl (by decide +kernel) ⟨Nat.le_of_ble_eq_true rfl, Nat.le_of_ble_eq_true rfl⟩) (zPc_S zB_H hP hK [0, 1, 2, 3, 4, 5, 20] rfl (zH_at hH hS (fun q hq => hDD.2 q (zA_pl [0, 1, 2, 3, 4, 5, 20] rfl q hq)))) rfl rfl hl.1 rfl (lv_room (Nat.le_of_ble_eq_true rfl)) dL_law_760 ⟨by show 22 + 4 * j + 2 ≤ 601024; omega, by show 14465 + 24 * j + 12 ≤ 7293034; omega⟩) hP hDD hS [0, 1, 2, 3, 4, 5, 20] rfl (fun u => by rcases u with ⟨_ | _, _⟩ <;> rfl) (fun r9 u9 H locs hw hP hS => ?_)
  refine W.widen (k := 22 + 4 * (j + 1)) (n := 14465 + 24 * (j + 1)) (by omega) (by omega) ?_
  obtain ⟨u8, oF⟩ := u9
  rcases hw with ⟨x8, r8, e8, rfl, hw, hout⟩ | ⟨e8, rfl, hw⟩
  · skip
    cases e8
    have hP : va_P (dC, dI) vwCl [(ax, .inr (2, [.ref a0, .ref a1, .ref ae, .ref aw, .int (nI k), .int (nI tn), .int mk, .int wn, .int cnt])), (ao, .inr (1, [.long (lN own), .int lo])), (aq, .inr (1, [.long (lN oth), .int lq])), (ae, .inr (0, [.ref at_, .int (nI x8.1)])), (at_, .inl (cyI, 13500, .inl x8.2.1)), (aw, .inl (cyI, 15, .inl x8.2.2)), (bx, .inr (3, [.int thr, .int (nI k), .int (nI tn), .int mk, .int wn, .int cnt, .ref bl, .ref ba, .ref bt, .ref bg, .ref be, .ref bf, .ref bw, .ref bs, .ref bm, .ref bn, .ref bb, .ref bu, .ref bh])), (bl, .inl (cyI, 2, .inl lf)), (ba, .inl (cyI, 32, .inl Af)), (bt, .inl (cyI, 5, .inl tf)), (bg, .inl (cyI, 225, .inl gf)), (be, .inl (cyI, 225, .inl ef)), (bf, .inl (cyI, 225, .inl ff)), (bw, .inl (cyI, 160, .inl u0.1)), (bs, .inl (cyI, 5, .inl u0.2.1)), (bm, .inl (cyI, 5, .inl u0.2.2.1)), (bn, .inl (cyI, 5, .inl u0.2.2.2.1)), (bb, .inl (cyI, 5, .inl u0.2.2.2.2.1)), (bu, .inl (cyJ, 5, .inr (.inl u0.2.2.2.2.2))), (bh, .inl (cyI, 15, .inl hf)), (aL, .inl (cyJ, 1, .inr (.inl oF))), (aD, .inl (cyD, 1, .inr (.inr (.inr (.inl dF)))))] H := hP
    refine lv_istore (lv' := [(6, .int 0), (5, .int (nI (4 * j))), (4, .ref aD), (3, .ref aL), (2, .ref bx), (1, .ref ax), (0, .ref b)]) hx hb dL_law_763 hl (by decide) rfl (fun ls hl => ?_)
    refine lv_aload_n hx hb dL_law_765 rfl (lv_at hl 4 rfl) ?_
    refine lv_aload_n hx hb dL_law_766 rfl (lv_at hl 6 rfl) ?_
    refine lv_iload hx hb dL_law_767 (lv_at hl 1 rfl) ?_
    refine lv_iconst (v := 1) hx hb dL_law_769 (by decide) ?_
    refine lv_iadd hx hb dL_law_770 ?_
    refine zz_i (y := nI (4 * j + 1)) (nI_add (4 * j) 1) ?_
    refine va_sld hx hb hX hbl hbA hS (vp_in_nI (n := 4 * j + 1) (by omega) (by omega)) dL_law_771 ?_
    refine zz_i (y := v1) (by rw [nI_clamp (by omega), hv1]) ?_
    refine lv_aload_n hx hb dL_law_772 rfl (lv_at hl 6 rfl) ?_
    refine lv_iload hx hb dL_law_773 (lv_at hl 1 rfl) ?_
    refine lv_iconst (v := 2) hx hb dL_law_775 (by decide) ?_
    refine lv_iadd hx hb dL_law_776 ?_
    refine zz_i (y := nI (4 * j + 2)) (nI_add (4 * j) 2) ?_
    refine va_sld hx hb hX hbl hbA hS (vp_in_nI (n := 4 * j + 2) (by omega) (by omega)) dL_law_777 ?_
    refine zz_i (y := v2) (by rw [nI_clamp (by omega), hv2]) ?_
    refine zrw_i (w1 := fun u : Int32 × (Nat → Int32) × zU => [(bx, .inr (3, [.int u.1, .int (nI k), .int (nI tn), .int mk, .int wn, .int cnt, .ref bl, .ref ba, .ref bt, .ref bg, .ref be, .ref bf, .ref bw, .ref bs, .ref bm, .ref bn, .ref bb, .ref bu, .ref bh])), (ba, .inl (cyI, 32, .inl Af)), (bh, .inl (cyI, 15, .inl u.2.1)), (bt, .inl (cyI, 5, .inl tf)), (bf, .inl (cyI, 225, .inl ff)), (bw, .inl (cyI, 160, .inl u.2.2.1)), (bs, .inl (cyI, 5, .inl u.2.2.2.1)), (bm, .inl (cyI, 5, .inl u.2.2.2.2.1)), (bn, .inl (cyI, 5, .inl u.2.2.2.2.2.1)), (bb, .inl (cyI, 5, .inl u.2.2.2.2.2.2.1)), (bu, .inl (cyJ, 5, .inr (.inl u.2.2.2.2.2.2.2)))]) (al := [bx, ba, bh, bt, bf, bw, bs, bm, bn, bb, bu]) (va_runV (As := [.int v1, .int v2]) (rest := []) ⟨hx, hb, hml, hown, hts⟩ (c_X6_ranked l dC dI cyI cyJ k hk1 bx bl ba bt bg be bf bw bs bm bn bb bu bh thr mk wn cnt tf ff Af hf htf hff u0 tn own oth mm htn hO hQ hrow hmk hmm v1 v2 (z_nd hDD.1 [6, 8, 19, 9, 12, 13, 14, 15, 16, 17, 18] (by decide) rfl)) (cwV 2 hts gL_law_X6_ranked rfl rfl rfl (by decide +kernel) ⟨Nat.le_of_ble_eq_true rfl, Nat.le_of_ble_eq_true rfl⟩) (zPc_V (ci := 3) (q0 := 6) zB_T hP hK rfl rfl [6, 8, 19, 9, 12, 13, 14, 15, 16, 17, 18] rfl (fun _ _ _ => trivial)) rfl rfl hl.1 rfl (lv_room (Nat.le_of_ble_eq_true rfl)) dL_law_778 ⟨by show 22 + 4 * (j + 1) + 0 ≤ 601024; omega, by show 14465 + 24 * (j + 1) + 0 ≤ 7293034; omega⟩) hP hDD hS [6, 8, 19, 9, 12, 13, 14, 15, 16, 17, 18] rfl (fun _ => rfl) (fun r7 u7 H locs h7 hP hS => ?_)
    have hP : va_P (dC, dI) vwCl [(ax, .inr (2, [.ref a0, .ref a1, .ref ae, .ref aw, .int (nI k), .int (nI tn), .int mk, .int wn, .int cnt])), (ao, .inr (1, [.long (lN own), .int lo])), (aq, .inr (1, [.long (lN oth), .int lq])), (ae, .inr (0, [.ref at_, .int (nI x8.1)])), (at_, .inl (cyI, 13500, .inl x8.2.1)), (aw, .inl (cyI, 15, .inl x8.2.2)), (bx, .inr (3, [.int u7.1, .int (nI k), .int (nI tn), .int mk, .int wn, .int cnt, .ref bl, .ref ba, .ref bt, .ref bg, .ref be, .ref bf, .ref bw, .ref bs, .ref bm, .ref bn, .ref bb, .ref bu, .ref bh])), (bl, .inl (cyI, 2, .inl lf)), (ba, .inl (cyI, 32, .inl Af)), (bt, .inl (cyI, 5, .inl tf)), (bg, .inl (cyI, 225, .inl gf)), (be, .inl (cyI, 225, .inl ef)), (bf, .inl (cyI, 225, .inl ff)), (bw, .inl (cyI, 160, .inl u7.2.2.1)), (bs, .inl (cyI, 5, .inl u7.2.2.2.1)), (bm, .inl (cyI, 5, .inl u7.2.2.2.2.1)), (bn, .inl (cyI, 5, .inl u7.2.2.2.2.2.1)), (bb, .inl (cyI, 5, .inl u7.2.2.2.2.2.2.1)), (bu, .inl (cyJ, 5, .inr (.inl u7.2.2.2.2.2.2.2))), (bh, .inl (cyI, 15, .inl u7.2.1)), (aL, .inl (cyJ, 1, .inr (.inl oF))), (aD, .inl (cyD, 1, .inr (.inr (.inr (.inl dF)))))] H := hP
    rcases h7 with ⟨e7, h7⟩ | ⟨e7, h7⟩
    · skip
      have e7 : u7.1 = 0 := e7
      rw [e7] at hP
      have hP : va_P (dC, dI) vwCl [(ax, .inr (2, [.ref a0, .ref a1, .ref ae, .ref aw, .int (nI k), .int (nI tn), .int mk, .int wn, .int cnt])), (ao, .inr (1, [.long (lN own), .int lo])), (aq, .inr (1, [.long (lN oth), .int lq])), (ae, .inr (0, [.ref at_, .int (nI x8.1)])), (at_, .inl (cyI, 13500, .inl x8.2.1)), (aw, .inl (cyI, 15, .inl x8.2.2)), (bx, .inr (3, [.int 0, .int (nI k), .int (nI tn), .int mk, .int wn, .int cnt, .ref bl, .ref ba, .ref bt, .ref bg, .ref be, .ref bf, .ref bw, .ref bs, .ref bm, .ref bn, .ref bb, .ref bu, .ref bh])), (bl, .inl (cyI, 2, .inl lf)), (ba, .inl (cyI, 32, .inl Af)), (bt, .inl (cyI, 5, .inl tf)), (bg, .inl (cyI, 225, .inl gf)), (be, .inl (cyI, 225, .inl ef)), (bf, .inl (cyI, 225, .inl ff)), (bw, .inl (cyI, 160, .inl u7.2.2.1)), (bs, .inl (cyI, 5, .inl u7.2.2.2.1)), (bm, .inl (cyI, 5, .inl u7.2.2.2.2.1)), (bn, .inl (cyI, 5, .inl u7.2.2.2.2.2.1)), (bb, .inl (cyI, 5, .inl u7.2.2.2.2.2.2.1)), (bu, .inl (cyJ, 5, .inr (.inl u7.2.2.2.2.2.2.2))), (bh, .inl (cyI, 15, .inl u7.2.1)), (aL, .inl (cyJ, 1, .inr (.inl oF))), (aD, .inl (cyD, 1, .inr (.inr (.inr (.inl dF)))))] H := hP
      obtain ⟨xN, h1, h2, h20, hT8, hK8, h3⟩ := hw
      obtain ⟨xM, g1, g2, g20, g3⟩ := h7
      obtain rfl : xN = xM := (nI_eq (by omega) (by omega)).mp (h2.symm.trans g2)
      have hout8 : oF 0 = (r7 : Int32).toInt64 := by
        rw [show oF 0 = _ from hout, h3, g3]
        by_cases hc : v2 < nI (zNum own oth mm 15)
        · rw [if_pos hc]
        · rw [if_neg hc, zRk_out hc]
      refine lv_istore (lv' := [(7, .int r7), (6, .int 0), (5, .int (nI (4 * j))), (4, .ref aD), (3, .ref aL), (2, .ref bx), (1, .ref ax), (0, .ref b)]) hx hb dL_law_781 hl (by decide) rfl (fun ls hl => ?_)
      refine lv_aload_n hx hb dL_law_783 rfl (lv_at hl 5 rfl) ?_
      refine zro_i (va_runV (As := []) (rest := []) ⟨hx, hb, hml, hown, hts⟩ (c_X6_thrown l dC dI cyI cyJ (nI k) bx bl ba bt bg be bf bw bs bm bn bb bu bh 0 (nI tn) mk wn cnt) (cwV 0 hts gL_law_X6_thrown rfl rfl rfl (by decide +kernel) ⟨Nat.le_of_ble_eq_true rfl, Nat.le_of_ble_eq_true rfl⟩) (zPc_V (ci := 3) (q0 := 6) zB_T hP hK rfl rfl [6] rfl (fun _ _ _ => trivial)) rfl rfl hl.1 rfl (lv_room (Nat.le_of_ble_eq_true rfl)) dL_law_784 ⟨by show 22 + 4 * (j + 1) + 0 ≤ 601024; omega, by show 14465 + 24 * (j + 1) + 0 ≤ 7293034; omega⟩) hP hS (fun H locs hP hS => ?_)
      refine lv_iload hx hb dL_law_787 (lv_at hl 1 rfl) ?_
      refine lv_icmp_eq (tgt := 794) hx hb dL_law_789 (by decide) (fun _ => ?_) (fun c9 => absurd c9 (by decide))
      refine lv_iload hx hb dL_law_794 (lv_at hl 1 rfl) ?_
      refine lv_if_ne (tgt := 811) hx hb dL_law_796 (by decide) (fun c9 => absurd c9 (by decide)) (fun _ => ?_)
      refine lv_aload_n hx hb dL_law_799 rfl (lv_at hl 4 rfl) ?_
      refine lv_iconst (v := 0) hx hb dL_law_800 (by decide) ?_
      refine zi_lald hx hb hK hP 20 1 rfl rfl (j := 0) rfl (by omega) (by decide) dL_law_801 ?_
      refine zz_l (y := (r7 : Int32).toInt64) hout8 ?_
      refine lv_iload hx hb dL_law_802 (lv_at hl 0 rfl) ?_
      refine lv_i2l (v := (r7 : Int32).toInt64) hx hb dL_law_804 rfl ?_
      refine W.lcmp hx hb dL_law_805 ?_
      refine zz_i (y := 0) (lg_same _) ?_
      refine lv_if_eq (tgt := 811) hx hb dL_law_806 (by decide) (fun _ => ?_) (fun c9 => absurd c9 (by decide))
      refine lv_goto (tgt := 974) hx hb dL_law_811 (by decide) ?_
      refine K _ _ _ ⟨k, tn, own, oth, mm, x8.1, ao, aq, mk, wn, cnt, lo, lq, 0, x8.2.1, x8.2.2, Af, lf, u7.2.1, tf, gf, ef, ff, u7.2.2, oF, dF, ⟨hk1, hsd, hO, hQ, hK8, hT8, hmk, hmm, hwn, hhas, hrow, hl1, hl2, htf, hff⟩, hP⟩ hS (lv_sub hl [2, 3, 4, 5, 6, 7] rfl)
    · skip
      obtain ⟨xN, h1, h2, h20, hT8, hK8, h3⟩ := hw
      exact absurd ⟨(zin_iff (n := 3) (by decide)).mpr ⟨xN, h1, h2⟩, h20⟩ h7
  · skip
    cases e8
    have hP : va_P (dC, dI) vwCl [(ax, .inr (2, [.ref a0, .ref a1, .ref ae, .ref aw, .int (nI k), .int (nI tn), .int mk, .int wn, .int cnt])), (ao, .inr (1, [.long (lN own), .int lo])), (aq, .inr (1, [.long (lN oth), .int lq])), (ae, .inr (0, [.ref at_, .int (nI kk)])), (at_, .inl (cyI, 13500, .inl wf)), (aw, .inl (cyI, 15, .inl wb)), (bx, .inr (3, [.int thr, .int (nI k), .int (nI tn), .int mk, .int wn, .int cnt, .ref bl, .ref ba, .ref bt, .ref bg, .ref be, .ref bf, .ref bw, .ref bs, .ref bm, .ref bn, .ref bb, .ref bu, .ref bh])), (bl, .inl (cyI, 2, .inl lf)), (ba, .inl (cyI, 32, .inl Af)), (bt, .inl (cyI, 5, .inl tf)), (bg, .inl (cyI, 225, .inl gf)), (be, .inl (cyI, 225, .inl ef)), (bf, .inl (cyI, 225, .inl ff)), (bw, .inl (cyI, 160, .inl u0.1)), (bs, .inl (cyI, 5, .inl u0.2.1)), (bm, .inl (cyI, 5, .inl u0.2.2.1)), (bn, .inl (cyI, 5, .inl u0.2.2.2.1)), (bb, .inl (cyI, 5, .inl u0.2.2.2.2.1)), (bu, .inl (cyJ, 5, .inr (.inl u0.2.2.2.2.2))), (bh, .inl (cyI, 15, .inl hf)), (aL, .inl (cyJ, 1, .inr (.inl oF))), (aD, .inl (cyD, 1, .inr (.inr (.inr (.inl dF)))))] H := hP
    refine lv_istore (lv' := [(6, .int 1), (5, .int (nI (4 * j))), (4, .ref aD), (3, .ref aL), (2, .ref bx), (1, .ref ax), (0, .ref b)]) hx hb dL_law_763 hl (by decide) rfl (fun ls hl => ?_)
    refine lv_aload_n hx hb dL_law_765 rfl (lv_at hl 4 rfl) ?_
    refine lv_aload_n hx hb dL_law_766 rfl (lv_at hl 6 rfl) ?_
    refine lv_iload hx hb dL_law_767 (lv_at hl 1 rfl) ?_
    refine lv_iconst (v := 1) hx hb dL_law_769 (by decide) ?_
    refine lv_iadd hx hb dL_law_770 ?_
    refine zz_i (y := nI (4 * j + 1)) (nI_add (4 * j) 1) ?_
    refine va_sld hx hb hX hbl hbA hS (vp_in_nI (n := 4 * j + 1) (by omega) (by omega)) dL_law_771 ?_
    refine zz_i (y := v1) (by rw [nI_clamp (by omega), hv1]) ?_
    refine lv_aload_n hx hb dL_law_772 rfl (lv_at hl 6 rfl) ?_
    refine lv_iload hx hb dL_law_773 (lv_at hl 1 rfl) ?_
    refine lv_iconst (v := 2) hx hb dL_law_775 (by decide) ?_
    refine lv_iadd hx hb dL_law_776 ?_
    refine zz_i (y := nI (4 * j + 2)) (nI_add (4 * j) 2) ?_
    refine va_sld hx hb hX hbl hbA hS (vp_in_nI (n := 4 * j + 2) (by omega) (by omega)) dL_law_777 ?_
    refine zz_i (y := v2) (by rw [nI_clamp (by omega), hv2]) ?_
    refine zrw_i (w1 := fun u : Int32 × (Nat → Int32) × zU => [(bx, .inr (3, [.int u.1, .int (nI k), .int (nI tn), .int mk, .int wn, .int cnt, .ref bl, .ref ba, .ref bt, .ref bg, .ref be, .ref bf, .ref bw, .ref bs, .ref bm, .ref bn, .ref bb, .ref bu, .ref bh])), (ba, .inl (cyI, 32, .inl Af)), (bh, .inl (cyI, 15, .inl u.2.1)), (bt, .inl (cyI, 5, .inl tf)), (bf, .inl (cyI, 225, .inl ff)), (bw, .inl (cyI, 160, .inl u.2.2.1)), (bs, .inl (cyI, 5, .inl u.2.2.2.1)), (bm, .inl (cyI, 5, .inl u.2.2.2.2.1)), (bn, .inl (cyI, 5, .inl u.2.2.2.2.2.1)), (bb, .inl (cyI, 5, .inl u.2.2.2.2.2.2.1)), (bu, .inl (cyJ, 5, .inr (.inl u.2.2.2.2.2.2.2)))]) (al := [bx, ba, bh, bt, bf, bw, bs, bm, bn, bb, bu]) (va_runV (As := [.int v1, .int v2]) (rest := []) ⟨hx, hb, hml, hown, hts⟩ (c_X6_ranked l dC dI cyI cyJ k hk1 bx bl ba bt bg be bf bw bs bm bn bb bu bh thr mk wn cnt tf ff Af hf htf hff u0 tn own oth mm htn hO hQ hrow hmk hmm v1 v2 (z_nd hDD.1 [6, 8, 19, 9, 12, 13, 14, 15, 16, 17, 18] (by decide) rfl)) (cwV 2 hts gL_law_X6_ranked rfl rfl rfl (by decide +kernel) ⟨Nat.le_of_ble_eq_true rfl, Nat.le_of_ble_eq_true rfl⟩) (zPc_V (ci := 3) (q0 := 6) zB_T hP hK rfl rfl [6, 8, 19, 9, 12, 13, 14, 15, 16, 17, 18] rfl (fun _ _ _ => trivial)) rfl rfl hl.1 rfl (lv_room (Nat.le_of_ble_eq_true rfl)) dL_law_778 ⟨by show 22 + 4 * (j + 1) + 0 ≤ 601024; omega, by show 14465 + 24 * (j + 1) + 0 ≤ 7293034; omega⟩) hP hDD hS [6, 8, 19, 9, 12, 13, 14, 15, 16, 17, 18] rfl (fun _ => rfl) (fun r7 u7 H locs h7 hP hS => ?_)
    have hP : va_P (dC, dI) vwCl [(ax, .inr (2, [.ref a0, .ref a1, .ref ae, .ref aw, .int (nI k), .int (nI tn), .int mk, .int wn, .int cnt])), (ao, .inr (1, [.long (lN own), .int lo])), (aq, .inr (1, [.long (lN oth), .int lq])), (ae, .inr (0, [.ref at_, .int (nI kk)])), (at_, .inl (cyI, 13500, .inl wf)), (aw, .inl (cyI, 15, .inl wb)), (bx, .inr (3, [.int u7.1, .int (nI k), .int (nI tn), .int mk, .int wn, .int cnt, .ref bl, .ref ba, .ref bt, .ref bg, .ref be, .ref bf, .ref bw, .ref bs, .ref bm, .ref bn, .ref bb, .ref bu, .ref bh])), (bl, .inl (cyI, 2, .inl lf)), (ba, .inl (cyI, 32, .inl Af)), (bt, .inl (cyI, 5, .inl tf)), (bg, .inl (cyI, 225, .inl gf)), (be, .inl (cyI, 225, .inl ef)), (bf, .inl (cyI, 225, .inl ff)), (bw, .inl (cyI, 160, .inl u7.2.2.1)), (bs, .inl (cyI, 5, .inl u7.2.2.2.1)), (bm, .inl (cyI, 5, .inl u7.2.2.2.2.1)), (bn, .inl (cyI, 5, .inl u7.2.2.2.2.2.1)), (bb, .inl (cyI, 5, .inl u7.2.2.2.2.2.2.1)), (bu, .inl (cyJ, 5, .inr (.inl u7.2.2.2.2.2.2.2))), (bh, .inl (cyI, 15, .inl u7.2.1)), (aL, .inl (cyJ, 1, .inr (.inl oF))), (aD, .inl (cyD, 1, .inr (.inr (.inr (.inl dF)))))] H := hP
    rcases h7 with ⟨e7, h7⟩ | ⟨e7, h7⟩
    · skip
      obtain ⟨xN, h1, h2, h20, h3⟩ := h7
      exact absurd ⟨(zin_iff (n := 3) (by decide)).mpr ⟨xN, h1, h2⟩, h20⟩ hw
    · skip
      have e7 : u7.1 = 1 := e7
      rw [e7] at hP
      have hP : va_P (dC, dI) vwCl [(ax, .inr (2, [.ref a0, .ref a1, .ref ae, .ref aw, .int (nI k), .int (nI tn), .int mk, .int wn, .int cnt])), (ao, .inr (1, [.long (lN own), .int lo])), (aq, .inr (1, [.long (lN oth), .int lq])), (ae, .inr (0, [.ref at_, .int (nI kk)])), (at_, .inl (cyI, 13500, .inl wf)), (aw, .inl (cyI, 15, .inl wb)), (bx, .inr (3, [.int 1, .int (nI k), .int (nI tn), .int mk, .int wn, .int cnt, .ref bl, .ref ba, .ref bt, .ref bg, .ref be, .ref bf, .ref bw, .ref bs, .ref bm, .ref bn, .ref bb, .ref bu, .ref bh])), (bl, .inl (cyI, 2, .inl lf)), (ba, .inl (cyI, 32, .inl Af)), (bt, .inl (cyI, 5, .inl tf)), (bg, .inl (cyI, 225, .inl gf)), (be, .inl (cyI, 225, .inl ef)), (bf, .inl (cyI, 225, .inl ff)), (bw, .inl (cyI, 160, .inl u7.2.2.1)), (bs, .inl (cyI, 5, .inl u7.2.2.2.1)), (bm, .inl (cyI, 5, .inl u7.2.2.2.2.1)), (bn, .inl (cyI, 5, .inl u7.2.2.2.2.2.1)), (bb, .inl (cyI, 5, .inl u7.2.2.2.2.2.2.1)), (bu, .inl (cyJ, 5, .inr (.inl u7.2.2.2.2.2.2.2))), (bh, .inl (cyI, 15, .inl u7.2.1)), (aL, .inl (cyJ, 1, .inr (.inl oF))), (aD, .inl (cyD, 1, .inr (.inr (.inr (.inl dF)))))] H := hP
      refine lv_istore (lv' := [(7, .int r7), (6, .int 1), (5, .int (nI (4 * j))), (4, .ref aD), (3, .ref aL), (2, .ref bx), (1, .ref ax), (0, .ref b)]) hx hb dL_law_781 hl (by decide) rfl (fun ls hl => ?_)
      refine lv_aload_n hx hb dL_law_783 rfl (lv_at hl 5 rfl) ?_
      refine zro_i (va_runV (As := []) (rest := []) ⟨hx, hb, hml, hown, hts⟩ (c_X6_thrown l dC dI cyI cyJ (nI k) bx bl ba bt bg be bf bw bs bm bn bb bu bh 1 (nI tn) mk wn cnt) (cwV 0 hts gL_law_X6_thrown rfl rfl rfl (by decide +kernel) ⟨Nat.le_of_ble_eq_true rfl, Nat.le_of_ble_eq_true rfl⟩) (zPc_V (ci := 3) (q0 := 6) zB_T hP hK rfl rfl [6] rfl (fun _ _ _ => trivial)) rfl rfl hl.1 rfl (lv_room (Nat.le_of_ble_eq_true rfl)) dL_law_784 ⟨by show 22 + 4 * (j + 1) + 0 ≤ 601024; omega, by show 14465 + 24 * (j + 1) + 0 ≤ 7293034; omega⟩) hP hS (fun H locs hP hS => ?_)
      refine lv_iload hx hb dL_law_787 (lv_at hl 1 rfl) ?_
      refine lv_icmp_eq (tgt := 794) hx hb dL_law_789 (by decide) (fun _ => ?_) (fun c9 => absurd c9 (by decide))
      refine lv_iload hx hb dL_law_794 (lv_at hl 1 rfl) ?_
      refine lv_if_ne (tgt := 811) hx hb dL_law_796 (by decide) (fun _ => ?_) (fun c9 => absurd c9 (by decide))
      refine lv_goto (tgt := 974) hx hb dL_law_811 (by decide) ?_
      refine K _ _ _ ⟨k, tn, own, oth, mm, kk, ao, aq, mk, wn, cnt, lo, lq, 1, wf, wb, Af, lf, u7.2.1, tf, gf, ef, ff, u7.2.2, oF, dF, ⟨hk1, hsd, hO, hQ, hkk, htb, hmk, hmm, hwn, hhas, hrow, hl1, hl2, htf, hff⟩, hP⟩ hS (lv_sub hl [2, 3, 4, 5, 6, 7] rfl)

set_option maxHeartbeats 4000000 in
set_option maxRecDepth 100000 in
theorem law_ending {p : Program} {l : Launch} {e : Env} {s : State} {m : MethodId} {args : Array Value} {below : List Frame} {meth : Method} {c : Code} {Q : State → Prop} {dC : Nat → ClassId} {dI : Nat → Nat → Nat} {cyI cyJ cyD : ClassId} {b L tb ax a0 a1 ae at_ aw bx bl ba bt bg be bf bw bs bm bn bb bu bh aL aD : Nat} {xs : Nat → Int32} (E0 : zLE p l s m args c dC dI cyI cyJ cyD b L tb ax a0 a1 ae at_ aw bx bl ba bt bg be bf bw bs bm bn bb bu bh aL aD xs) (j : Nat) (hj : 4 * j + 4 ≤ L) {H : Heap} {locs : List Loc} (hI : zInv dC dI cyI cyJ cyD ax a0 a1 ae at_ aw bx bl ba bt bg be bf bw bs bm bn bb bu bh aL aD H) (hS : va_S (fun q : Nat => s.heap.size ≤ q) s.heap H locs) {ls : Array Slot} (hl : lv_has ls 9 [(5, .int (nI (4 * j))), (4, .ref aD), (3, .ref aL), (2, .ref bx), (1, .ref ax), (0, .ref b)])
    (K : ∀ (H : Heap) (locs : List Loc) (ls : Array Slot), zInv dC dI cyI cyJ cyD ax a0 a1 ae at_ aw bx bl ba bt bg be bf bw bs bm bn bb bu bh aL aD H → va_S (fun q : Nat => s.heap.size ≤ q) s.heap H locs → lv_has ls 9 [(5, .int (nI (4 * j))), (4, .ref aD), (3, .ref aL), (2, .ref bx), (1, .ref ax), (0, .ref b)] → W p l e room_1 s m args below meth c H locs (22 + 4 * (j + 1)) (14465 + 24 * (j + 1)) Q (F0 m 974 ls [])) : W p l e room_1 s m args below meth c H locs (22 + 4 * j) (14465 + 24 * j) Q (F0 m 814 ls []) := by
  obtain ⟨hx, hb, hml, hown, hts, hX, hbl, hLL, hl0, hK3, hH, hAl⟩ := E0
  have hK := hK3.sub (tys' := [(cyI, .int), (cyJ, .long)]) [0, 1] rfl
  have hbA : ¬ (fun q : Nat => s.heap.size ≤ q) b := Nat.not_le.mpr hbl
  obtain ⟨k, tn, own, oth, mm, kk, ao, aq, mk, wn, cnt, lo, lq, thr, wf, wb, Af, lf, hf, tf, gf, ef, ff, u0, oF, dF, ⟨hk1, hsd, hO, hQ, hkk, htb, hmk, hmm, hwn, hhas, hrow, hl1, hl2, htf, hff⟩, hP⟩ := hI
  have hDD := zD_side hsd hAl
  have htn := zSd_le hsd
  obtain ⟨v1, hv1⟩ : ∃ v, v = xs (4 * j + 1) := ⟨_, rfl⟩
  obtain ⟨v2, hv2⟩ : ∃ v, v = xs (4 * j + 2) := ⟨_, rfl⟩
  obtain ⟨v3, hv3⟩ : ∃ v, v = xs (4 * j + 3) := ⟨_, rfl⟩
  refine lv_aload_n hx hb dL_law_814 rfl (lv_at hl 4 rfl) ?_
  refine lv_aload_n hx hb dL_law_815 rfl (lv_at hl 5 rfl) ?_
  refine lv_iload hx hb dL_law_816 (lv_at hl 0 rfl) ?_
  refine lv_iconst (v := 1) hx hb dL_law_818 (by decide) ?_
  refine lv_iadd hx hb dL_law_819 ?_
  refine zz_i (y := nI (4 * j + 1)) (nI_add (4 * j) 1) ?_
  refine va_sld hx hb hX hbl hbA hS (vp_in_nI (n := 4 * j + 1) (by omega) (by omega)) dL_law_820 ?_
  refine zz_i (y := v1) (by rw [nI_clamp (by omega), hv1]) ?_
  refine lv_aload_n hx hb dL_law_821 rfl (lv_at hl 5 rfl) ?_
  refine lv_iload hx hb dL_law_822 (lv_at hl 0 rfl) ?_
  refine lv_iconst (v := 2) hx hb dL_law_824 (by decide) ?_
  refine lv_iadd hx hb dL_law_825 ?_
  refine zz_i (y := nI (4 * j + 2)) (nI_add (4 * j) 2) ?_
  refine va_sld hx hb hX hbl hbA hS (vp_in_nI (n := 4 * j + 2) (by omega) (by omega)) dL_law_826 ?_
  refine zz_i (y := v2) (by rw [nI_clamp (by omega), hv2]) ?_
  refine lv_aload_n hx hb dL_law_827 rfl (lv_at hl 5 rfl) ?_
  refine lv_iload hx hb dL_law_828 (lv_at hl 0 rfl) ?_
  refine lv_iconst (v := 3) hx hb dL_law_830 (by decide) ?_
  refine lv_iadd hx hb dL_law_831 ?_
  refine zz_i (y := nI (4 * j + 3)) (nI_add (4 * j) 3) ?_
  refine va_sld hx hb hX hbl hbA hS (vp_in_nI (n := 4 * j + 3) (by omega) (by omega)) dL_law_832 ?_
  refine zz_i (y := v3) (by rw [nI_clamp (by omega), hv3]) ?_
  refine lv_aload_n hx hb dL_law_833 rfl (lv_at hl 2 rfl) ?_
  refine zlw_i (vx_runSX (As := [.ref ax, .int v1, .int v2, .int v3, .ref aL]) (rest := []) ⟨hx, hb, hml, hown, hts⟩ (c_L_ending l hl0 dC dI cyI cyJ tb ax a0 a1 ae aw at_ (nI k) (nI tn) mk wn cnt wf kk hkk htb v1 v2 v3 aL oF (z_nd hDD.1 [0, 3, 4, 20] (by decide) rfl)) (vx_cwSW 5 hts gL_law_L_ending rfl rfl rfl (by decide +kernel) ⟨Nat.le_of_ble_eq_true rfl, Nat.le_of_ble_eq_true rfl⟩) (zPc_S zB_H hP hK [0, 3, 4, 20] rfl (zH_at hH hS (fun q hq => hDD.2 q (zA_pl [0, 3, 4, 20] rfl q hq)))) rfl rfl hl.1 rfl (lv_room (Nat.le_of_ble_eq_true rfl)) dL_law_834 ⟨by show 22 + 4 * j + 4 ≤ 601024; omega, by show 14465 + 24 * j + 24 ≤ 7293034; omega⟩) hP hDD hS [0, 3, 4, 20] rfl (fun u => by rcases u with ⟨_ | _, _⟩ <;> rfl) (fun r9 u9 H locs hw hP hS => ?_)
  refine W.widen (k := 22 + 4 * (j + 1)) (n := 14465 + 24 * (j + 1)) (by omega) (by omega) ?_
  obtain ⟨u8, oF⟩ := u9
  rcases hw with ⟨x8, r8, e8, rfl, hw, hout⟩ | ⟨e8, rfl, hw⟩
  · skip
    cases e8
    have hP : va_P (dC, dI) vwCl [(ax, .inr (2, [.ref a0, .ref a1, .ref ae, .ref aw, .int (nI k), .int (nI tn), .int mk, .int wn, .int cnt])), (ao, .inr (1, [.long (lN own), .int lo])), (aq, .inr (1, [.long (lN oth), .int lq])), (ae, .inr (0, [.ref at_, .int (nI x8.1)])), (at_, .inl (cyI, 13500, .inl x8.2)), (aw, .inl (cyI, 15, .inl wb)), (bx, .inr (3, [.int thr, .int (nI k), .int (nI tn), .int mk, .int wn, .int cnt, .ref bl, .ref ba, .ref bt, .ref bg, .ref be, .ref bf, .ref bw, .ref bs, .ref bm, .ref bn, .ref bb, .ref bu, .ref bh])), (bl, .inl (cyI, 2, .inl lf)), (ba, .inl (cyI, 32, .inl Af)), (bt, .inl (cyI, 5, .inl tf)), (bg, .inl (cyI, 225, .inl gf)), (be, .inl (cyI, 225, .inl ef)), (bf, .inl (cyI, 225, .inl ff)), (bw, .inl (cyI, 160, .inl u0.1)), (bs, .inl (cyI, 5, .inl u0.2.1)), (bm, .inl (cyI, 5, .inl u0.2.2.1)), (bn, .inl (cyI, 5, .inl u0.2.2.2.1)), (bb, .inl (cyI, 5, .inl u0.2.2.2.2.1)), (bu, .inl (cyJ, 5, .inr (.inl u0.2.2.2.2.2))), (bh, .inl (cyI, 15, .inl hf)), (aL, .inl (cyJ, 1, .inr (.inl oF))), (aD, .inl (cyD, 1, .inr (.inr (.inr (.inl dF)))))] H := hP
    refine lv_istore (lv' := [(6, .int 0), (5, .int (nI (4 * j))), (4, .ref aD), (3, .ref aL), (2, .ref bx), (1, .ref ax), (0, .ref b)]) hx hb dL_law_837 hl (by decide) rfl (fun ls hl => ?_)
    refine lv_aload_n hx hb dL_law_839 rfl (lv_at hl 4 rfl) ?_
    refine lv_aload_n hx hb dL_law_840 rfl (lv_at hl 6 rfl) ?_
    refine lv_iload hx hb dL_law_841 (lv_at hl 1 rfl) ?_
    refine lv_iconst (v := 1) hx hb dL_law_843 (by decide) ?_
    refine lv_iadd hx hb dL_law_844 ?_
    refine zz_i (y := nI (4 * j + 1)) (nI_add (4 * j) 1) ?_
    refine va_sld hx hb hX hbl hbA hS (vp_in_nI (n := 4 * j + 1) (by omega) (by omega)) dL_law_845 ?_
    refine zz_i (y := v1) (by rw [nI_clamp (by omega), hv1]) ?_
    refine lv_aload_n hx hb dL_law_846 rfl (lv_at hl 6 rfl) ?_
    refine lv_iload hx hb dL_law_847 (lv_at hl 1 rfl) ?_
    refine lv_iconst (v := 2) hx hb dL_law_849 (by decide) ?_
    refine lv_iadd hx hb dL_law_850 ?_
    refine zz_i (y := nI (4 * j + 2)) (nI_add (4 * j) 2) ?_
    refine va_sld hx hb hX hbl hbA hS (vp_in_nI (n := 4 * j + 2) (by omega) (by omega)) dL_law_851 ?_
    refine zz_i (y := v2) (by rw [nI_clamp (by omega), hv2]) ?_
    refine lv_aload_n hx hb dL_law_852 rfl (lv_at hl 6 rfl) ?_
    refine lv_iload hx hb dL_law_853 (lv_at hl 1 rfl) ?_
    refine lv_iconst (v := 3) hx hb dL_law_855 (by decide) ?_
    refine lv_iadd hx hb dL_law_856 ?_
    refine zz_i (y := nI (4 * j + 3)) (nI_add (4 * j) 3) ?_
    refine va_sld hx hb hX hbl hbA hS (vp_in_nI (n := 4 * j + 3) (by omega) (by omega)) dL_law_857 ?_
    refine zz_i (y := v3) (by rw [nI_clamp (by omega), hv3]) ?_
    refine zrw_i (w1 := fun u : Int32 × (Nat → Int32) × (Nat → Int32) => [(bx, .inr (3, [.int u.1, .int (nI k), .int (nI tn), .int mk, .int wn, .int cnt, .ref bl, .ref ba, .ref bt, .ref bg, .ref be, .ref bf, .ref bw, .ref bs, .ref bm, .ref bn, .ref bb, .ref bu, .ref bh])), (bt, .inl (cyI, 5, .inl tf)), (bg, .inl (cyI, 225, .inl u.2.1)), (be, .inl (cyI, 225, .inl u.2.2))]) (al := [bx, bt, bg, be]) (va_runV (As := [.int v1, .int v2, .int v3]) (rest := []) ⟨hx, hb, hml, hown, hts⟩ (c_X6_ending l dC dI cyI cyJ k bx bl ba bt bg be bf bw bs bm bn bb bu bh thr (nI tn) mk wn cnt tf gf ef htf v1 v2 v3 (z_nd hDD.1 [6, 9, 10, 11] (by decide) rfl)) (cwV 3 hts gL_law_X6_ending rfl rfl rfl (by decide +kernel) ⟨Nat.le_of_ble_eq_true rfl, Nat.le_of_ble_eq_true rfl⟩) (zPc_V (ci := 3) (q0 := 6) zB_T hP hK rfl rfl [6, 9, 10, 11] rfl (fun _ _ _ => trivial)) rfl rfl hl.1 rfl (lv_room (Nat.le_of_ble_eq_true rfl)) dL_law_858 ⟨by show 22 + 4 * (j + 1) + 0 ≤ 601024; omega, by show 14465 + 24 * (j + 1) + 0 ≤ 7293034; omega⟩) hP hDD hS [6, 9, 10, 11] rfl (fun _ => rfl) (fun r7 u7 H locs h7 hP hS => ?_)
    have hP : va_P (dC, dI) vwCl [(ax, .inr (2, [.ref a0, .ref a1, .ref ae, .ref aw, .int (nI k), .int (nI tn), .int mk, .int wn, .int cnt])), (ao, .inr (1, [.long (lN own), .int lo])), (aq, .inr (1, [.long (lN oth), .int lq])), (ae, .inr (0, [.ref at_, .int (nI x8.1)])), (at_, .inl (cyI, 13500, .inl x8.2)), (aw, .inl (cyI, 15, .inl wb)), (bx, .inr (3, [.int u7.1, .int (nI k), .int (nI tn), .int mk, .int wn, .int cnt, .ref bl, .ref ba, .ref bt, .ref bg, .ref be, .ref bf, .ref bw, .ref bs, .ref bm, .ref bn, .ref bb, .ref bu, .ref bh])), (bl, .inl (cyI, 2, .inl lf)), (ba, .inl (cyI, 32, .inl Af)), (bt, .inl (cyI, 5, .inl tf)), (bg, .inl (cyI, 225, .inl u7.2.1)), (be, .inl (cyI, 225, .inl u7.2.2)), (bf, .inl (cyI, 225, .inl ff)), (bw, .inl (cyI, 160, .inl u0.1)), (bs, .inl (cyI, 5, .inl u0.2.1)), (bm, .inl (cyI, 5, .inl u0.2.2.1)), (bn, .inl (cyI, 5, .inl u0.2.2.2.1)), (bb, .inl (cyI, 5, .inl u0.2.2.2.2.1)), (bu, .inl (cyJ, 5, .inr (.inl u0.2.2.2.2.2))), (bh, .inl (cyI, 15, .inl hf)), (aL, .inl (cyJ, 1, .inr (.inl oF))), (aD, .inl (cyD, 1, .inr (.inr (.inr (.inl dF)))))] H := hP
    rcases h7 with ⟨e7, h7⟩ | ⟨e7, h7⟩
    · skip
      have e7 : u7.1 = 0 := e7
      rw [e7] at hP
      have hP : va_P (dC, dI) vwCl [(ax, .inr (2, [.ref a0, .ref a1, .ref ae, .ref aw, .int (nI k), .int (nI tn), .int mk, .int wn, .int cnt])), (ao, .inr (1, [.long (lN own), .int lo])), (aq, .inr (1, [.long (lN oth), .int lq])), (ae, .inr (0, [.ref at_, .int (nI x8.1)])), (at_, .inl (cyI, 13500, .inl x8.2)), (aw, .inl (cyI, 15, .inl wb)), (bx, .inr (3, [.int 0, .int (nI k), .int (nI tn), .int mk, .int wn, .int cnt, .ref bl, .ref ba, .ref bt, .ref bg, .ref be, .ref bf, .ref bw, .ref bs, .ref bm, .ref bn, .ref bb, .ref bu, .ref bh])), (bl, .inl (cyI, 2, .inl lf)), (ba, .inl (cyI, 32, .inl Af)), (bt, .inl (cyI, 5, .inl tf)), (bg, .inl (cyI, 225, .inl u7.2.1)), (be, .inl (cyI, 225, .inl u7.2.2)), (bf, .inl (cyI, 225, .inl ff)), (bw, .inl (cyI, 160, .inl u0.1)), (bs, .inl (cyI, 5, .inl u0.2.1)), (bm, .inl (cyI, 5, .inl u0.2.2.1)), (bn, .inl (cyI, 5, .inl u0.2.2.2.1)), (bb, .inl (cyI, 5, .inl u0.2.2.2.2.1)), (bu, .inl (cyJ, 5, .inr (.inl u0.2.2.2.2.2))), (bh, .inl (cyI, 15, .inl hf)), (aL, .inl (cyJ, 1, .inr (.inl oF))), (aD, .inl (cyD, 1, .inr (.inr (.inr (.inl dF)))))] H := hP
      obtain ⟨a, b9, rr, h1, h2, h3, h4, h5, h6, h70, hT8, hK8, h8⟩ := hw
      obtain ⟨a2, b2, r2, g1, g2, g3, g4, g5, g6, g70, g8⟩ := h7
      obtain rfl : a = a2 := (nI_eq (by omega) (by omega)).mp (h4.symm.trans g4)
      obtain rfl : b9 = b2 := (nI_eq (by omega) (by omega)).mp (h5.symm.trans g5)
      obtain rfl : rr = r2 := (nI_eq (by omega) (by omega)).mp (h6.symm.trans g6)
      have hout8 : oF 0 = (r7 : Int32).toInt64 := by rw [show oF 0 = _ from hout, h8, g8]
      refine lv_istore (lv' := [(7, .int r7), (6, .int 0), (5, .int (nI (4 * j))), (4, .ref aD), (3, .ref aL), (2, .ref bx), (1, .ref ax), (0, .ref b)]) hx hb dL_law_861 hl (by decide) rfl (fun ls hl => ?_)
      refine lv_aload_n hx hb dL_law_863 rfl (lv_at hl 5 rfl) ?_
      refine zro_i (va_runV (As := []) (rest := []) ⟨hx, hb, hml, hown, hts⟩ (c_X6_thrown l dC dI cyI cyJ (nI k) bx bl ba bt bg be bf bw bs bm bn bb bu bh 0 (nI tn) mk wn cnt) (cwV 0 hts gL_law_X6_thrown rfl rfl rfl (by decide +kernel) ⟨Nat.le_of_ble_eq_true rfl, Nat.le_of_ble_eq_true rfl⟩) (zPc_V (ci := 3) (q0 := 6) zB_T hP hK rfl rfl [6] rfl (fun _ _ _ => trivial)) rfl rfl hl.1 rfl (lv_room (Nat.le_of_ble_eq_true rfl)) dL_law_864 ⟨by show 22 + 4 * (j + 1) + 0 ≤ 601024; omega, by show 14465 + 24 * (j + 1) + 0 ≤ 7293034; omega⟩) hP hS (fun H locs hP hS => ?_)
      refine lv_iload hx hb dL_law_867 (lv_at hl 1 rfl) ?_
      refine lv_icmp_eq (tgt := 874) hx hb dL_law_869 (by decide) (fun _ => ?_) (fun c9 => absurd c9 (by decide))
      refine lv_iload hx hb dL_law_874 (lv_at hl 1 rfl) ?_
      refine lv_if_ne (tgt := 891) hx hb dL_law_876 (by decide) (fun c9 => absurd c9 (by decide)) (fun _ => ?_)
      refine lv_aload_n hx hb dL_law_879 rfl (lv_at hl 4 rfl) ?_
      refine lv_iconst (v := 0) hx hb dL_law_880 (by decide) ?_
      refine zi_lald hx hb hK hP 20 1 rfl rfl (j := 0) rfl (by omega) (by decide) dL_law_881 ?_
      refine zz_l (y := (r7 : Int32).toInt64) hout8 ?_
      refine lv_iload hx hb dL_law_882 (lv_at hl 0 rfl) ?_
      refine lv_i2l (v := (r7 : Int32).toInt64) hx hb dL_law_884 rfl ?_
      refine W.lcmp hx hb dL_law_885 ?_
      refine zz_i (y := 0) (lg_same _) ?_
      refine lv_if_eq (tgt := 891) hx hb dL_law_886 (by decide) (fun _ => ?_) (fun c9 => absurd c9 (by decide))
      refine lv_goto (tgt := 974) hx hb dL_law_891 (by decide) ?_
      refine K _ _ _ ⟨k, tn, own, oth, mm, x8.1, ao, aq, mk, wn, cnt, lo, lq, 0, x8.2, wb, Af, lf, hf, tf, u7.2.1, u7.2.2, ff, u0, oF, dF, ⟨hk1, hsd, hO, hQ, hK8, hT8, hmk, hmm, hwn, hhas, hrow, hl1, hl2, htf, hff⟩, hP⟩ hS (lv_sub hl [2, 3, 4, 5, 6, 7] rfl)
    · skip
      obtain ⟨a, b9, rr, h1, h2, h3, h4, h5, h6, h70, hT8, hK8, h8⟩ := hw
      exact absurd ⟨⟨a, b9, h1, h2, h4, h5, h70⟩, (zin_iff (n := 60) (by decide)).mpr ⟨rr, h3, h6⟩⟩ h7
  · skip
    cases e8
    have hP : va_P (dC, dI) vwCl [(ax, .inr (2, [.ref a0, .ref a1, .ref ae, .ref aw, .int (nI k), .int (nI tn), .int mk, .int wn, .int cnt])), (ao, .inr (1, [.long (lN own), .int lo])), (aq, .inr (1, [.long (lN oth), .int lq])), (ae, .inr (0, [.ref at_, .int (nI kk)])), (at_, .inl (cyI, 13500, .inl wf)), (aw, .inl (cyI, 15, .inl wb)), (bx, .inr (3, [.int thr, .int (nI k), .int (nI tn), .int mk, .int wn, .int cnt, .ref bl, .ref ba, .ref bt, .ref bg, .ref be, .ref bf, .ref bw, .ref bs, .ref bm, .ref bn, .ref bb, .ref bu, .ref bh])), (bl, .inl (cyI, 2, .inl lf)), (ba, .inl (cyI, 32, .inl Af)), (bt, .inl (cyI, 5, .inl tf)), (bg, .inl (cyI, 225, .inl gf)), (be, .inl (cyI, 225, .inl ef)), (bf, .inl (cyI, 225, .inl ff)), (bw, .inl (cyI, 160, .inl u0.1)), (bs, .inl (cyI, 5, .inl u0.2.1)), (bm, .inl (cyI, 5, .inl u0.2.2.1)), (bn, .inl (cyI, 5, .inl u0.2.2.2.1)), (bb, .inl (cyI, 5, .inl u0.2.2.2.2.1)), (bu, .inl (cyJ, 5, .inr (.inl u0.2.2.2.2.2))), (bh, .inl (cyI, 15, .inl hf)), (aL, .inl (cyJ, 1, .inr (.inl oF))), (aD, .inl (cyD, 1, .inr (.inr (.inr (.inl dF)))))] H := hP
    refine lv_istore (lv' := [(6, .int 1), (5, .int (nI (4 * j))), (4, .ref aD), (3, .ref aL), (2, .ref bx), (1, .ref ax), (0, .ref b)]) hx hb dL_law_837 hl (by decide) rfl (fun ls hl => ?_)
    refine lv_aload_n hx hb dL_law_839 rfl (lv_at hl 4 rfl) ?_
    refine lv_aload_n hx hb dL_law_840 rfl (lv_at hl 6 rfl) ?_
    refine lv_iload hx hb dL_law_841 (lv_at hl 1 rfl) ?_
    refine lv_iconst (v := 1) hx hb dL_law_843 (by decide) ?_
    refine lv_iadd hx hb dL_law_844 ?_
    refine zz_i (y := nI (4 * j + 1)) (nI_add (4 * j) 1) ?_
    refine va_sld hx hb hX hbl hbA hS (vp_in_nI (n := 4 * j + 1) (by omega) (by omega)) dL_law_845 ?_
    refine zz_i (y := v1) (by rw [nI_clamp (by omega), hv1]) ?_
    refine lv_aload_n hx hb dL_law_846 rfl (lv_at hl 6 rfl) ?_
    refine lv_iload hx hb dL_law_847 (lv_at hl 1 rfl) ?_
    refine lv_iconst (v := 2) hx hb dL_law_849 (by decide) ?_
    refine lv_iadd hx hb dL_law_850 ?_
    refine zz_i (y := nI (4 * j + 2)) (nI_add (4 * j) 2) ?_
    refine va_sld hx hb hX hbl hbA hS (vp_in_nI (n := 4 * j + 2) (by omega) (by omega)) dL_law_851 ?_
    refine zz_i (y := v2) (by rw [nI_clamp (by omega), hv2]) ?_
    refine lv_aload_n hx hb dL_law_852 rfl (lv_at hl 6 rfl) ?_
    refine lv_iload hx hb dL_law_853 (lv_at hl 1 rfl) ?_
    refine lv_iconst (v := 3) hx hb dL_law_855 (by decide) ?_
    refine lv_iadd hx hb dL_law_856 ?_
    refine zz_i (y := nI (4 * j + 3)) (nI_add (4 * j) 3) ?_
    refine va_sld hx hb hX hbl hbA hS (vp_in_nI (n := 4 * j + 3) (by omega) (by omega)) dL_law_857 ?_
    refine zz_i (y := v3) (by rw [nI_clamp (by omega), hv3]) ?_
    refine zrw_i (w1 := fun u : Int32 × (Nat → Int32) × (Nat → Int32) => [(bx, .inr (3, [.int u.1, .int (nI k), .int (nI tn), .int mk, .int wn, .int cnt, .ref bl, .ref ba, .ref bt, .ref bg, .ref be, .ref bf, .ref bw, .ref bs, .ref bm, .ref bn, .ref bb, .ref bu, .ref bh])), (bt, .inl (cyI, 5, .inl tf)), (bg, .inl (cyI, 225, .inl u.2.1)), (be, .inl (cyI, 225, .inl u.2.2))]) (al := [bx, bt, bg, be]) (va_runV (As := [.int v1, .int v2, .int v3]) (rest := []) ⟨hx, hb, hml, hown, hts⟩ (c_X6_ending l dC dI cyI cyJ k bx bl ba bt bg be bf bw bs bm bn bb bu bh thr (nI tn) mk wn cnt tf gf ef htf v1 v2 v3 (z_nd hDD.1 [6, 9, 10, 11] (by decide) rfl)) (cwV 3 hts gL_law_X6_ending rfl rfl rfl (by decide +kernel) ⟨Nat.le_of_ble_eq_true rfl, Nat.le_of_ble_eq_true rfl⟩) (zPc_V (ci := 3) (q0 := 6) zB_T hP hK rfl rfl [6, 9, 10, 11] rfl (fun _ _ _ => trivial)) rfl rfl hl.1 rfl (lv_room (Nat.le_of_ble_eq_true rfl)) dL_law_858 ⟨by show 22 + 4 * (j + 1) + 0 ≤ 601024; omega, by show 14465 + 24 * (j + 1) + 0 ≤ 7293034; omega⟩) hP hDD hS [6, 9, 10, 11] rfl (fun _ => rfl) (fun r7 u7 H locs h7 hP hS => ?_)
    have hP : va_P (dC, dI) vwCl [(ax, .inr (2, [.ref a0, .ref a1, .ref ae, .ref aw, .int (nI k), .int (nI tn), .int mk, .int wn, .int cnt])), (ao, .inr (1, [.long (lN own), .int lo])), (aq, .inr (1, [.long (lN oth), .int lq])), (ae, .inr (0, [.ref at_, .int (nI kk)])), (at_, .inl (cyI, 13500, .inl wf)), (aw, .inl (cyI, 15, .inl wb)), (bx, .inr (3, [.int u7.1, .int (nI k), .int (nI tn), .int mk, .int wn, .int cnt, .ref bl, .ref ba, .ref bt, .ref bg, .ref be, .ref bf, .ref bw, .ref bs, .ref bm, .ref bn, .ref bb, .ref bu, .ref bh])), (bl, .inl (cyI, 2, .inl lf)), (ba, .inl (cyI, 32, .inl Af)), (bt, .inl (cyI, 5, .inl tf)), (bg, .inl (cyI, 225, .inl u7.2.1)), (be, .inl (cyI, 225, .inl u7.2.2)), (bf, .inl (cyI, 225, .inl ff)), (bw, .inl (cyI, 160, .inl u0.1)), (bs, .inl (cyI, 5, .inl u0.2.1)), (bm, .inl (cyI, 5, .inl u0.2.2.1)), (bn, .inl (cyI, 5, .inl u0.2.2.2.1)), (bb, .inl (cyI, 5, .inl u0.2.2.2.2.1)), (bu, .inl (cyJ, 5, .inr (.inl u0.2.2.2.2.2))), (bh, .inl (cyI, 15, .inl hf)), (aL, .inl (cyJ, 1, .inr (.inl oF))), (aD, .inl (cyD, 1, .inr (.inr (.inr (.inl dF)))))] H := hP
    rcases h7 with ⟨e7, h7⟩ | ⟨e7, h7⟩
    · skip
      obtain ⟨a, b9, rr, h1, h2, h3, h4, h5, h6, h70, h8⟩ := h7
      exact absurd ⟨⟨a, b9, h1, h2, h4, h5, h70⟩, (zin_iff (n := 60) (by decide)).mpr ⟨rr, h3, h6⟩⟩ hw
    · skip
      have e7 : u7.1 = 1 := e7
      rw [e7] at hP
      have hP : va_P (dC, dI) vwCl [(ax, .inr (2, [.ref a0, .ref a1, .ref ae, .ref aw, .int (nI k), .int (nI tn), .int mk, .int wn, .int cnt])), (ao, .inr (1, [.long (lN own), .int lo])), (aq, .inr (1, [.long (lN oth), .int lq])), (ae, .inr (0, [.ref at_, .int (nI kk)])), (at_, .inl (cyI, 13500, .inl wf)), (aw, .inl (cyI, 15, .inl wb)), (bx, .inr (3, [.int 1, .int (nI k), .int (nI tn), .int mk, .int wn, .int cnt, .ref bl, .ref ba, .ref bt, .ref bg, .ref be, .ref bf, .ref bw, .ref bs, .ref bm, .ref bn, .ref bb, .ref bu, .ref bh])), (bl, .inl (cyI, 2, .inl lf)), (ba, .inl (cyI, 32, .inl Af)), (bt, .inl (cyI, 5, .inl tf)), (bg, .inl (cyI, 225, .inl u7.2.1)), (be, .inl (cyI, 225, .inl u7.2.2)), (bf, .inl (cyI, 225, .inl ff)), (bw, .inl (cyI, 160, .inl u0.1)), (bs, .inl (cyI, 5, .inl u0.2.1)), (bm, .inl (cyI, 5, .inl u0.2.2.1)), (bn, .inl (cyI, 5, .inl u0.2.2.2.1)), (bb, .inl (cyI, 5, .inl u0.2.2.2.2.1)), (bu, .inl (cyJ, 5, .inr (.inl u0.2.2.2.2.2))), (bh, .inl (cyI, 15, .inl hf)), (aL, .inl (cyJ, 1, .inr (.inl oF))), (aD, .inl (cyD, 1, .inr (.inr (.inr (.inl dF)))))] H := hP
      refine lv_istore (lv' := [(7, .int r7), (6, .int 1), (5, .int (nI (4 * j))), (4, .ref aD), (3, .ref aL), (2, .ref bx), (1, .ref ax), (0, .ref b)]) hx hb dL_law_861 hl (by decide) rfl (fun ls hl => ?_)
      refine lv_aload_n hx hb dL_law_863 rfl (lv_at hl 5 rfl) ?_
      refine zro_i (va_runV (As := []) (rest := []) ⟨hx, hb, hml, hown, hts⟩ (c_X6_thrown l dC dI cyI cyJ (nI k) bx bl ba bt bg be bf bw bs bm bn bb bu bh 1 (nI tn) mk wn cnt) (cwV 0 hts gL_law_X6_thrown rfl rfl rfl (by decide +kernel) ⟨Nat.le_of_ble_eq_true rfl, Nat.le_of_ble_eq_true rfl⟩) (zPc_V (ci := 3) (q0 := 6) zB_T hP hK rfl rfl [6] rfl (fun _ _ _ => trivial)) rfl rfl hl.1 rfl (lv_room (Nat.le_of_ble_eq_true rfl)) dL_law_864 ⟨by show 22 + 4 * (j + 1) + 0 ≤ 601024; omega, by show 14465 + 24 * (j + 1) + 0 ≤ 7293034; omega⟩) hP hS (fun H locs hP hS => ?_)
      refine lv_iload hx hb dL_law_867 (lv_at hl 1 rfl) ?_
      refine lv_icmp_eq (tgt := 874) hx hb dL_law_869 (by decide) (fun _ => ?_) (fun c9 => absurd c9 (by decide))
      refine lv_iload hx hb dL_law_874 (lv_at hl 1 rfl) ?_
      refine lv_if_ne (tgt := 891) hx hb dL_law_876 (by decide) (fun _ => ?_) (fun c9 => absurd c9 (by decide))
      refine lv_goto (tgt := 974) hx hb dL_law_891 (by decide) ?_
      refine K _ _ _ ⟨k, tn, own, oth, mm, kk, ao, aq, mk, wn, cnt, lo, lq, 1, wf, wb, Af, lf, hf, tf, u7.2.1, u7.2.2, ff, u0, oF, dF, ⟨hk1, hsd, hO, hQ, hkk, htb, hmk, hmm, hwn, hhas, hrow, hl1, hl2, htf, hff⟩, hP⟩ hS (lv_sub hl [2, 3, 4, 5, 6, 7] rfl)

set_option maxHeartbeats 4000000 in
set_option maxRecDepth 100000 in
theorem law_endingByThrows {p : Program} {l : Launch} {e : Env} {s : State} {m : MethodId} {args : Array Value} {below : List Frame} {meth : Method} {c : Code} {Q : State → Prop} {dC : Nat → ClassId} {dI : Nat → Nat → Nat} {cyI cyJ cyD : ClassId} {b L tb ax a0 a1 ae at_ aw bx bl ba bt bg be bf bw bs bm bn bb bu bh aL aD : Nat} {xs : Nat → Int32} (E0 : zLE p l s m args c dC dI cyI cyJ cyD b L tb ax a0 a1 ae at_ aw bx bl ba bt bg be bf bw bs bm bn bb bu bh aL aD xs) (j : Nat) (hj : 4 * j + 4 ≤ L) {H : Heap} {locs : List Loc} (hI : zInv dC dI cyI cyJ cyD ax a0 a1 ae at_ aw bx bl ba bt bg be bf bw bs bm bn bb bu bh aL aD H) (hS : va_S (fun q : Nat => s.heap.size ≤ q) s.heap H locs) {ls : Array Slot} (hl : lv_has ls 9 [(5, .int (nI (4 * j))), (4, .ref aD), (3, .ref aL), (2, .ref bx), (1, .ref ax), (0, .ref b)])
    (K : ∀ (H : Heap) (locs : List Loc) (ls : Array Slot), zInv dC dI cyI cyJ cyD ax a0 a1 ae at_ aw bx bl ba bt bg be bf bw bs bm bn bb bu bh aL aD H → va_S (fun q : Nat => s.heap.size ≤ q) s.heap H locs → lv_has ls 9 [(5, .int (nI (4 * j))), (4, .ref aD), (3, .ref aL), (2, .ref bx), (1, .ref ax), (0, .ref b)] → W p l e room_1 s m args below meth c H locs (22 + 4 * (j + 1)) (14465 + 24 * (j + 1)) Q (F0 m 974 ls [])) : W p l e room_1 s m args below meth c H locs (22 + 4 * j) (14465 + 24 * j) Q (F0 m 894 ls []) := by
  obtain ⟨hx, hb, hml, hown, hts, hX, hbl, hLL, hl0, hK3, hH, hAl⟩ := E0
  have hK := hK3.sub (tys' := [(cyI, .int), (cyJ, .long)]) [0, 1] rfl
  have hbA : ¬ (fun q : Nat => s.heap.size ≤ q) b := Nat.not_le.mpr hbl
  obtain ⟨k, tn, own, oth, mm, kk, ao, aq, mk, wn, cnt, lo, lq, thr, wf, wb, Af, lf, hf, tf, gf, ef, ff, u0, oF, dF, ⟨hk1, hsd, hO, hQ, hkk, htb, hmk, hmm, hwn, hhas, hrow, hl1, hl2, htf, hff⟩, hP⟩ := hI
  have hDD := zD_side hsd hAl
  have htn := zSd_le hsd
  obtain ⟨v1, hv1⟩ : ∃ v, v = xs (4 * j + 1) := ⟨_, rfl⟩
  obtain ⟨v2, hv2⟩ : ∃ v, v = xs (4 * j + 2) := ⟨_, rfl⟩
  obtain ⟨v3, hv3⟩ : ∃ v, v = xs (4 * j + 3) := ⟨_, rfl⟩
  refine lv_aload_n hx hb dL_law_894 rfl (lv_at hl 4 rfl) ?_
  refine lv_aload_n hx hb dL_law_895 rfl (lv_at hl 5 rfl) ?_
  refine lv_iload hx hb dL_law_896 (lv_at hl 0 rfl) ?_
  refine lv_iconst (v := 1) hx hb dL_law_898 (by decide) ?_
  refine lv_iadd hx hb dL_law_899 ?_
  refine zz_i (y := nI (4 * j + 1)) (nI_add (4 * j) 1) ?_
  refine va_sld hx hb hX hbl hbA hS (vp_in_nI (n := 4 * j + 1) (by omega) (by omega)) dL_law_900 ?_
  refine zz_i (y := v1) (by rw [nI_clamp (by omega), hv1]) ?_
  refine lv_aload_n hx hb dL_law_901 rfl (lv_at hl 5 rfl) ?_
  refine lv_iload hx hb dL_law_902 (lv_at hl 0 rfl) ?_
  refine lv_iconst (v := 2) hx hb dL_law_904 (by decide) ?_
  refine lv_iadd hx hb dL_law_905 ?_
  refine zz_i (y := nI (4 * j + 2)) (nI_add (4 * j) 2) ?_
  refine va_sld hx hb hX hbl hbA hS (vp_in_nI (n := 4 * j + 2) (by omega) (by omega)) dL_law_906 ?_
  refine zz_i (y := v2) (by rw [nI_clamp (by omega), hv2]) ?_
  refine lv_aload_n hx hb dL_law_907 rfl (lv_at hl 5 rfl) ?_
  refine lv_iload hx hb dL_law_908 (lv_at hl 0 rfl) ?_
  refine lv_iconst (v := 3) hx hb dL_law_910 (by decide) ?_
  refine lv_iadd hx hb dL_law_911 ?_
  refine zz_i (y := nI (4 * j + 3)) (nI_add (4 * j) 3) ?_
  refine va_sld hx hb hX hbl hbA hS (vp_in_nI (n := 4 * j + 3) (by omega) (by omega)) dL_law_912 ?_
  refine zz_i (y := v3) (by rw [nI_clamp (by omega), hv3]) ?_
  refine lv_aload_n hx hb dL_law_913 rfl (lv_at hl 2 rfl) ?_
  refine zlw_i (vx_runSX (As := [.ref ax, .int v1, .int v2, .int v3, .ref aL]) (rest := []) ⟨hx, hb, hml, hown, hts⟩ (c_L_endingByThrows l hl0 dC dI cyI cyJ tb ax a0 a1 ae aw at_ (nI k) (nI tn) mk wn cnt wf kk v1 v2 v3 aL oF (z_nd hDD.1 [20] (by decide) rfl)) (vx_cwSW 5 hts gL_law_L_endingByThrows rfl rfl rfl (by decide +kernel) ⟨Nat.le_of_ble_eq_true rfl, Nat.le_of_ble_eq_true rfl⟩) (zPc_S zB_H hP hK [0, 3, 4, 20] rfl (zH_at hH hS (fun q hq => hDD.2 q (zA_pl [20] rfl q hq)))) rfl rfl hl.1 rfl (lv_room (Nat.le_of_ble_eq_true rfl)) dL_law_914 ⟨by show 22 + 4 * j + 4 ≤ 601024; omega, by show 14465 + 24 * j + 24 ≤ 7293034; omega⟩) hP hDD hS [20] rfl (fun _ => rfl) (fun r9 u9 H locs hw hP hS => ?_)
  refine W.widen (k := 22 + 4 * (j + 1)) (n := 14465 + 24 * (j + 1)) (by omega) (by omega) ?_
  have hu9 : u9 = u9 := rfl
  rcases hw with ⟨r8, rfl, hw, hout⟩ | ⟨rfl, hw⟩
  · skip
    have hP : va_P (dC, dI) vwCl [(ax, .inr (2, [.ref a0, .ref a1, .ref ae, .ref aw, .int (nI k), .int (nI tn), .int mk, .int wn, .int cnt])), (ao, .inr (1, [.long (lN own), .int lo])), (aq, .inr (1, [.long (lN oth), .int lq])), (ae, .inr (0, [.ref at_, .int (nI kk)])), (at_, .inl (cyI, 13500, .inl wf)), (aw, .inl (cyI, 15, .inl wb)), (bx, .inr (3, [.int thr, .int (nI k), .int (nI tn), .int mk, .int wn, .int cnt, .ref bl, .ref ba, .ref bt, .ref bg, .ref be, .ref bf, .ref bw, .ref bs, .ref bm, .ref bn, .ref bb, .ref bu, .ref bh])), (bl, .inl (cyI, 2, .inl lf)), (ba, .inl (cyI, 32, .inl Af)), (bt, .inl (cyI, 5, .inl tf)), (bg, .inl (cyI, 225, .inl gf)), (be, .inl (cyI, 225, .inl ef)), (bf, .inl (cyI, 225, .inl ff)), (bw, .inl (cyI, 160, .inl u0.1)), (bs, .inl (cyI, 5, .inl u0.2.1)), (bm, .inl (cyI, 5, .inl u0.2.2.1)), (bn, .inl (cyI, 5, .inl u0.2.2.2.1)), (bb, .inl (cyI, 5, .inl u0.2.2.2.2.1)), (bu, .inl (cyJ, 5, .inr (.inl u0.2.2.2.2.2))), (bh, .inl (cyI, 15, .inl hf)), (aL, .inl (cyJ, 1, .inr (.inl u9))), (aD, .inl (cyD, 1, .inr (.inr (.inr (.inl dF)))))] H := hP
    refine lv_istore (lv' := [(6, .int 0), (5, .int (nI (4 * j))), (4, .ref aD), (3, .ref aL), (2, .ref bx), (1, .ref ax), (0, .ref b)]) hx hb dL_law_917 hl (by decide) rfl (fun ls hl => ?_)
    refine lv_aload_n hx hb dL_law_919 rfl (lv_at hl 4 rfl) ?_
    refine lv_aload_n hx hb dL_law_920 rfl (lv_at hl 6 rfl) ?_
    refine lv_iload hx hb dL_law_921 (lv_at hl 1 rfl) ?_
    refine lv_iconst (v := 1) hx hb dL_law_923 (by decide) ?_
    refine lv_iadd hx hb dL_law_924 ?_
    refine zz_i (y := nI (4 * j + 1)) (nI_add (4 * j) 1) ?_
    refine va_sld hx hb hX hbl hbA hS (vp_in_nI (n := 4 * j + 1) (by omega) (by omega)) dL_law_925 ?_
    refine zz_i (y := v1) (by rw [nI_clamp (by omega), hv1]) ?_
    refine lv_aload_n hx hb dL_law_926 rfl (lv_at hl 6 rfl) ?_
    refine lv_iload hx hb dL_law_927 (lv_at hl 1 rfl) ?_
    refine lv_iconst (v := 2) hx hb dL_law_929 (by decide) ?_
    refine lv_iadd hx hb dL_law_930 ?_
    refine zz_i (y := nI (4 * j + 2)) (nI_add (4 * j) 2) ?_
    refine va_sld hx hb hX hbl hbA hS (vp_in_nI (n := 4 * j + 2) (by omega) (by omega)) dL_law_931 ?_
    refine zz_i (y := v2) (by rw [nI_clamp (by omega), hv2]) ?_
    refine lv_aload_n hx hb dL_law_932 rfl (lv_at hl 6 rfl) ?_
    refine lv_iload hx hb dL_law_933 (lv_at hl 1 rfl) ?_
    refine lv_iconst (v := 3) hx hb dL_law_935 (by decide) ?_
    refine lv_iadd hx hb dL_law_936 ?_
    refine zz_i (y := nI (4 * j + 3)) (nI_add (4 * j) 3) ?_
    refine va_sld hx hb hX hbl hbA hS (vp_in_nI (n := 4 * j + 3) (by omega) (by omega)) dL_law_937 ?_
    refine zz_i (y := v3) (by rw [nI_clamp (by omega), hv3]) ?_
    refine zrw_i (w1 := fun u : Int32 × (Nat → Int32) × (Nat → Int32) => [(bx, .inr (3, [.int u.1, .int (nI k), .int (nI tn), .int mk, .int wn, .int cnt, .ref bl, .ref ba, .ref bt, .ref bg, .ref be, .ref bf, .ref bw, .ref bs, .ref bm, .ref bn, .ref bb, .ref bu, .ref bh])), (bt, .inl (cyI, 5, .inl tf)), (bg, .inl (cyI, 225, .inl u.2.1)), (be, .inl (cyI, 225, .inl u.2.2))]) (al := [bx, bt, bg, be]) (va_runV (As := [.int v1, .int v2, .int v3]) (rest := []) ⟨hx, hb, hml, hown, hts⟩ (c_X6_endingByThrows l dC dI cyI cyJ k bx bl ba bt bg be bf bw bs bm bn bb bu bh thr (nI tn) mk wn cnt tf gf ef htf v1 v2 v3 (z_nd hDD.1 [6, 9, 10, 11] (by decide) rfl)) (cwV 3 hts gL_law_X6_endingByThrows rfl rfl rfl (by decide +kernel) ⟨Nat.le_of_ble_eq_true rfl, Nat.le_of_ble_eq_true rfl⟩) (zPc_V (ci := 3) (q0 := 6) zB_T hP hK rfl rfl [6, 9, 10, 11] rfl (fun _ _ _ => trivial)) rfl rfl hl.1 rfl (lv_room (Nat.le_of_ble_eq_true rfl)) dL_law_938 ⟨by show 22 + 4 * (j + 1) + 0 ≤ 601024; omega, by show 14465 + 24 * (j + 1) + 0 ≤ 7293034; omega⟩) hP hDD hS [6, 9, 10, 11] rfl (fun _ => rfl) (fun r7 u7 H locs h7 hP hS => ?_)
    have hP : va_P (dC, dI) vwCl [(ax, .inr (2, [.ref a0, .ref a1, .ref ae, .ref aw, .int (nI k), .int (nI tn), .int mk, .int wn, .int cnt])), (ao, .inr (1, [.long (lN own), .int lo])), (aq, .inr (1, [.long (lN oth), .int lq])), (ae, .inr (0, [.ref at_, .int (nI kk)])), (at_, .inl (cyI, 13500, .inl wf)), (aw, .inl (cyI, 15, .inl wb)), (bx, .inr (3, [.int u7.1, .int (nI k), .int (nI tn), .int mk, .int wn, .int cnt, .ref bl, .ref ba, .ref bt, .ref bg, .ref be, .ref bf, .ref bw, .ref bs, .ref bm, .ref bn, .ref bb, .ref bu, .ref bh])), (bl, .inl (cyI, 2, .inl lf)), (ba, .inl (cyI, 32, .inl Af)), (bt, .inl (cyI, 5, .inl tf)), (bg, .inl (cyI, 225, .inl u7.2.1)), (be, .inl (cyI, 225, .inl u7.2.2)), (bf, .inl (cyI, 225, .inl ff)), (bw, .inl (cyI, 160, .inl u0.1)), (bs, .inl (cyI, 5, .inl u0.2.1)), (bm, .inl (cyI, 5, .inl u0.2.2.1)), (bn, .inl (cyI, 5, .inl u0.2.2.2.1)), (bb, .inl (cyI, 5, .inl u0.2.2.2.2.1)), (bu, .inl (cyJ, 5, .inr (.inl u0.2.2.2.2.2))), (bh, .inl (cyI, 15, .inl hf)), (aL, .inl (cyJ, 1, .inr (.inl u9))), (aD, .inl (cyD, 1, .inr (.inr (.inr (.inl dF)))))] H := hP
    rcases h7 with ⟨e7, h7⟩ | ⟨e7, h7⟩
    · skip
      have e7 : u7.1 = 0 := e7
      rw [e7] at hP
      have hP : va_P (dC, dI) vwCl [(ax, .inr (2, [.ref a0, .ref a1, .ref ae, .ref aw, .int (nI k), .int (nI tn), .int mk, .int wn, .int cnt])), (ao, .inr (1, [.long (lN own), .int lo])), (aq, .inr (1, [.long (lN oth), .int lq])), (ae, .inr (0, [.ref at_, .int (nI kk)])), (at_, .inl (cyI, 13500, .inl wf)), (aw, .inl (cyI, 15, .inl wb)), (bx, .inr (3, [.int 0, .int (nI k), .int (nI tn), .int mk, .int wn, .int cnt, .ref bl, .ref ba, .ref bt, .ref bg, .ref be, .ref bf, .ref bw, .ref bs, .ref bm, .ref bn, .ref bb, .ref bu, .ref bh])), (bl, .inl (cyI, 2, .inl lf)), (ba, .inl (cyI, 32, .inl Af)), (bt, .inl (cyI, 5, .inl tf)), (bg, .inl (cyI, 225, .inl u7.2.1)), (be, .inl (cyI, 225, .inl u7.2.2)), (bf, .inl (cyI, 225, .inl ff)), (bw, .inl (cyI, 160, .inl u0.1)), (bs, .inl (cyI, 5, .inl u0.2.1)), (bm, .inl (cyI, 5, .inl u0.2.2.1)), (bn, .inl (cyI, 5, .inl u0.2.2.2.1)), (bb, .inl (cyI, 5, .inl u0.2.2.2.2.1)), (bu, .inl (cyJ, 5, .inr (.inl u0.2.2.2.2.2))), (bh, .inl (cyI, 15, .inl hf)), (aL, .inl (cyJ, 1, .inr (.inl u9))), (aD, .inl (cyD, 1, .inr (.inr (.inr (.inl dF)))))] H := hP
      obtain ⟨a, b9, rr, h1, h2, h3, h4, h5, h6, h70, h8⟩ := hw
      obtain ⟨a2, b2, r2, g1, g2, g3, g4, g5, g6, g70, g8⟩ := h7
      obtain rfl : a = a2 := (nI_eq (by omega) (by omega)).mp (h4.symm.trans g4)
      obtain rfl : b9 = b2 := (nI_eq (by omega) (by omega)).mp (h5.symm.trans g5)
      obtain rfl : rr = r2 := (nI_eq (by omega) (by omega)).mp (h6.symm.trans g6)
      have hout8 : u9 0 = (r7 : Int32).toInt64 := by rw [show u9 0 = _ from hout, h8, g8]
      refine lv_istore (lv' := [(7, .int r7), (6, .int 0), (5, .int (nI (4 * j))), (4, .ref aD), (3, .ref aL), (2, .ref bx), (1, .ref ax), (0, .ref b)]) hx hb dL_law_941 hl (by decide) rfl (fun ls hl => ?_)
      refine lv_aload_n hx hb dL_law_943 rfl (lv_at hl 5 rfl) ?_
      refine zro_i (va_runV (As := []) (rest := []) ⟨hx, hb, hml, hown, hts⟩ (c_X6_thrown l dC dI cyI cyJ (nI k) bx bl ba bt bg be bf bw bs bm bn bb bu bh 0 (nI tn) mk wn cnt) (cwV 0 hts gL_law_X6_thrown rfl rfl rfl (by decide +kernel) ⟨Nat.le_of_ble_eq_true rfl, Nat.le_of_ble_eq_true rfl⟩) (zPc_V (ci := 3) (q0 := 6) zB_T hP hK rfl rfl [6] rfl (fun _ _ _ => trivial)) rfl rfl hl.1 rfl (lv_room (Nat.le_of_ble_eq_true rfl)) dL_law_944 ⟨by show 22 + 4 * (j + 1) + 0 ≤ 601024; omega, by show 14465 + 24 * (j + 1) + 0 ≤ 7293034; omega⟩) hP hS (fun H locs hP hS => ?_)
      refine lv_iload hx hb dL_law_947 (lv_at hl 1 rfl) ?_
      refine lv_icmp_eq (tgt := 954) hx hb dL_law_949 (by decide) (fun _ => ?_) (fun c9 => absurd c9 (by decide))
      refine lv_iload hx hb dL_law_954 (lv_at hl 1 rfl) ?_
      refine lv_if_ne (tgt := 971) hx hb dL_law_956 (by decide) (fun c9 => absurd c9 (by decide)) (fun _ => ?_)
      refine lv_aload_n hx hb dL_law_959 rfl (lv_at hl 4 rfl) ?_
      refine lv_iconst (v := 0) hx hb dL_law_960 (by decide) ?_
      refine zi_lald hx hb hK hP 20 1 rfl rfl (j := 0) rfl (by omega) (by decide) dL_law_961 ?_
      refine zz_l (y := (r7 : Int32).toInt64) hout8 ?_
      refine lv_iload hx hb dL_law_962 (lv_at hl 0 rfl) ?_
      refine lv_i2l (v := (r7 : Int32).toInt64) hx hb dL_law_964 rfl ?_
      refine W.lcmp hx hb dL_law_965 ?_
      refine zz_i (y := 0) (lg_same _) ?_
      refine lv_if_eq (tgt := 971) hx hb dL_law_966 (by decide) (fun _ => ?_) (fun c9 => absurd c9 (by decide))
      refine lv_goto (tgt := 974) hx hb dL_law_971 (by decide) ?_
      refine K _ _ _ ⟨k, tn, own, oth, mm, kk, ao, aq, mk, wn, cnt, lo, lq, 0, wf, wb, Af, lf, hf, tf, u7.2.1, u7.2.2, ff, u0, u9, dF, ⟨hk1, hsd, hO, hQ, hkk, htb, hmk, hmm, hwn, hhas, hrow, hl1, hl2, htf, hff⟩, hP⟩ hS (lv_sub hl [2, 3, 4, 5, 6, 7] rfl)
    · skip
      obtain ⟨a, b9, rr, h1, h2, h3, h4, h5, h6, h70, h8⟩ := hw
      exact absurd ⟨⟨a, b9, h1, h2, h4, h5, h70⟩, (zin_iff (n := 5) (by decide)).mpr ⟨rr, h3, h6⟩⟩ h7
  · skip
    have hP : va_P (dC, dI) vwCl [(ax, .inr (2, [.ref a0, .ref a1, .ref ae, .ref aw, .int (nI k), .int (nI tn), .int mk, .int wn, .int cnt])), (ao, .inr (1, [.long (lN own), .int lo])), (aq, .inr (1, [.long (lN oth), .int lq])), (ae, .inr (0, [.ref at_, .int (nI kk)])), (at_, .inl (cyI, 13500, .inl wf)), (aw, .inl (cyI, 15, .inl wb)), (bx, .inr (3, [.int thr, .int (nI k), .int (nI tn), .int mk, .int wn, .int cnt, .ref bl, .ref ba, .ref bt, .ref bg, .ref be, .ref bf, .ref bw, .ref bs, .ref bm, .ref bn, .ref bb, .ref bu, .ref bh])), (bl, .inl (cyI, 2, .inl lf)), (ba, .inl (cyI, 32, .inl Af)), (bt, .inl (cyI, 5, .inl tf)), (bg, .inl (cyI, 225, .inl gf)), (be, .inl (cyI, 225, .inl ef)), (bf, .inl (cyI, 225, .inl ff)), (bw, .inl (cyI, 160, .inl u0.1)), (bs, .inl (cyI, 5, .inl u0.2.1)), (bm, .inl (cyI, 5, .inl u0.2.2.1)), (bn, .inl (cyI, 5, .inl u0.2.2.2.1)), (bb, .inl (cyI, 5, .inl u0.2.2.2.2.1)), (bu, .inl (cyJ, 5, .inr (.inl u0.2.2.2.2.2))), (bh, .inl (cyI, 15, .inl hf)), (aL, .inl (cyJ, 1, .inr (.inl u9))), (aD, .inl (cyD, 1, .inr (.inr (.inr (.inl dF)))))] H := hP
    refine lv_istore (lv' := [(6, .int 1), (5, .int (nI (4 * j))), (4, .ref aD), (3, .ref aL), (2, .ref bx), (1, .ref ax), (0, .ref b)]) hx hb dL_law_917 hl (by decide) rfl (fun ls hl => ?_)
    refine lv_aload_n hx hb dL_law_919 rfl (lv_at hl 4 rfl) ?_
    refine lv_aload_n hx hb dL_law_920 rfl (lv_at hl 6 rfl) ?_
    refine lv_iload hx hb dL_law_921 (lv_at hl 1 rfl) ?_
    refine lv_iconst (v := 1) hx hb dL_law_923 (by decide) ?_
    refine lv_iadd hx hb dL_law_924 ?_
    refine zz_i (y := nI (4 * j + 1)) (nI_add (4 * j) 1) ?_
    refine va_sld hx hb hX hbl hbA hS (vp_in_nI (n := 4 * j + 1) (by omega) (by omega)) dL_law_925 ?_
    refine zz_i (y := v1) (by rw [nI_clamp (by omega), hv1]) ?_
    refine lv_aload_n hx hb dL_law_926 rfl (lv_at hl 6 rfl) ?_
    refine lv_iload hx hb dL_law_927 (lv_at hl 1 rfl) ?_
    refine lv_iconst (v := 2) hx hb dL_law_929 (by decide) ?_
    refine lv_iadd hx hb dL_law_930 ?_
    refine zz_i (y := nI (4 * j + 2)) (nI_add (4 * j) 2) ?_
    refine va_sld hx hb hX hbl hbA hS (vp_in_nI (n := 4 * j + 2) (by omega) (by omega)) dL_law_931 ?_
    refine zz_i (y := v2) (by rw [nI_clamp (by omega), hv2]) ?_
    refine lv_aload_n hx hb dL_law_932 rfl (lv_at hl 6 rfl) ?_
    refine lv_iload hx hb dL_law_933 (lv_at hl 1 rfl) ?_
    refine lv_iconst (v := 3) hx hb dL_law_935 (by decide) ?_
    refine lv_iadd hx hb dL_law_936 ?_
    refine zz_i (y := nI (4 * j + 3)) (nI_add (4 * j) 3) ?_
    refine va_sld hx hb hX hbl hbA hS (vp_in_nI (n := 4 * j + 3) (by omega) (by omega)) dL_law_937 ?_
    refine zz_i (y := v3) (by rw [nI_clamp (by omega), hv3]) ?_
    refine zrw_i (w1 := fun u : Int32 × (Nat → Int32) × (Nat → Int32) => [(bx, .inr (3, [.int u.1, .int (nI k), .int (nI tn), .int mk, .int wn, .int cnt, .ref bl, .ref ba, .ref bt, .ref bg, .ref be, .ref bf, .ref bw, .ref bs, .ref bm, .ref bn, .ref bb, .ref bu, .ref bh])), (bt, .inl (cyI, 5, .inl tf)), (bg, .inl (cyI, 225, .inl u.2.1)), (be, .inl (cyI, 225, .inl u.2.2))]) (al := [bx, bt, bg, be]) (va_runV (As := [.int v1, .int v2, .int v3]) (rest := []) ⟨hx, hb, hml, hown, hts⟩ (c_X6_endingByThrows l dC dI cyI cyJ k bx bl ba bt bg be bf bw bs bm bn bb bu bh thr (nI tn) mk wn cnt tf gf ef htf v1 v2 v3 (z_nd hDD.1 [6, 9, 10, 11] (by decide) rfl)) (cwV 3 hts gL_law_X6_endingByThrows rfl rfl rfl (by decide +kernel) ⟨Nat.le_of_ble_eq_true rfl, Nat.le_of_ble_eq_true rfl⟩) (zPc_V (ci := 3) (q0 := 6) zB_T hP hK rfl rfl [6, 9, 10, 11] rfl (fun _ _ _ => trivial)) rfl rfl hl.1 rfl (lv_room (Nat.le_of_ble_eq_true rfl)) dL_law_938 ⟨by show 22 + 4 * (j + 1) + 0 ≤ 601024; omega, by show 14465 + 24 * (j + 1) + 0 ≤ 7293034; omega⟩) hP hDD hS [6, 9, 10, 11] rfl (fun _ => rfl) (fun r7 u7 H locs h7 hP hS => ?_)
    have hP : va_P (dC, dI) vwCl [(ax, .inr (2, [.ref a0, .ref a1, .ref ae, .ref aw, .int (nI k), .int (nI tn), .int mk, .int wn, .int cnt])), (ao, .inr (1, [.long (lN own), .int lo])), (aq, .inr (1, [.long (lN oth), .int lq])), (ae, .inr (0, [.ref at_, .int (nI kk)])), (at_, .inl (cyI, 13500, .inl wf)), (aw, .inl (cyI, 15, .inl wb)), (bx, .inr (3, [.int u7.1, .int (nI k), .int (nI tn), .int mk, .int wn, .int cnt, .ref bl, .ref ba, .ref bt, .ref bg, .ref be, .ref bf, .ref bw, .ref bs, .ref bm, .ref bn, .ref bb, .ref bu, .ref bh])), (bl, .inl (cyI, 2, .inl lf)), (ba, .inl (cyI, 32, .inl Af)), (bt, .inl (cyI, 5, .inl tf)), (bg, .inl (cyI, 225, .inl u7.2.1)), (be, .inl (cyI, 225, .inl u7.2.2)), (bf, .inl (cyI, 225, .inl ff)), (bw, .inl (cyI, 160, .inl u0.1)), (bs, .inl (cyI, 5, .inl u0.2.1)), (bm, .inl (cyI, 5, .inl u0.2.2.1)), (bn, .inl (cyI, 5, .inl u0.2.2.2.1)), (bb, .inl (cyI, 5, .inl u0.2.2.2.2.1)), (bu, .inl (cyJ, 5, .inr (.inl u0.2.2.2.2.2))), (bh, .inl (cyI, 15, .inl hf)), (aL, .inl (cyJ, 1, .inr (.inl u9))), (aD, .inl (cyD, 1, .inr (.inr (.inr (.inl dF)))))] H := hP
    rcases h7 with ⟨e7, h7⟩ | ⟨e7, h7⟩
    · skip
      obtain ⟨a, b9, rr, h1, h2, h3, h4, h5, h6, h70, h8⟩ := h7
      exact absurd ⟨⟨a, b9, h1, h2, h4, h5, h70⟩, (zin_iff (n := 5) (by decide)).mpr ⟨rr, h3, h6⟩⟩ hw
    · skip
      have e7 : u7.1 = 1 := e7
      rw [e7] at hP
      have hP : va_P (dC, dI) vwCl [(ax, .inr (2, [.ref a0, .ref a1, .ref ae, .ref aw, .int (nI k), .int (nI tn), .int mk, .int wn, .int cnt])), (ao, .inr (1, [.long (lN own), .int lo])), (aq, .inr (1, [.long (lN oth), .int lq])), (ae, .inr (0, [.ref at_, .int (nI kk)])), (at_, .inl (cyI, 13500, .inl wf)), (aw, .inl (cyI, 15, .inl wb)), (bx, .inr (3, [.int 1, .int (nI k), .int (nI tn), .int mk, .int wn, .int cnt, .ref bl, .ref ba, .ref bt, .ref bg, .ref be, .ref bf, .ref bw, .ref bs, .ref bm, .ref bn, .ref bb, .ref bu, .ref bh])), (bl, .inl (cyI, 2, .inl lf)), (ba, .inl (cyI, 32, .inl Af)), (bt, .inl (cyI, 5, .inl tf)), (bg, .inl (cyI, 225, .inl u7.2.1)), (be, .inl (cyI, 225, .inl u7.2.2)), (bf, .inl (cyI, 225, .inl ff)), (bw, .inl (cyI, 160, .inl u0.1)), (bs, .inl (cyI, 5, .inl u0.2.1)), (bm, .inl (cyI, 5, .inl u0.2.2.1)), (bn, .inl (cyI, 5, .inl u0.2.2.2.1)), (bb, .inl (cyI, 5, .inl u0.2.2.2.2.1)), (bu, .inl (cyJ, 5, .inr (.inl u0.2.2.2.2.2))), (bh, .inl (cyI, 15, .inl hf)), (aL, .inl (cyJ, 1, .inr (.inl u9))), (aD, .inl (cyD, 1, .inr (.inr (.inr (.inl dF)))))] H := hP
      refine lv_istore (lv' := [(7, .int r7), (6, .int 1), (5, .int (nI (4 * j))), (4, .ref aD), (3, .ref aL), (2, .ref bx), (1, .ref ax), (0, .ref b)]) hx hb dL_law_941 hl (by decide) rfl (fun ls hl => ?_)
      refine lv_aload_n hx hb dL_law_943 rfl (lv_at hl 5 rfl) ?_
      refine zro_i (va_runV (As := []) (rest := []) ⟨hx, hb, hml, hown, hts⟩ (c_X6_thrown l dC dI cyI cyJ (nI k) bx bl ba bt bg be bf bw bs bm bn bb bu bh 1 (nI tn) mk wn cnt) (cwV 0 hts gL_law_X6_thrown rfl rfl rfl (by decide +kernel) ⟨Nat.le_of_ble_eq_true rfl, Nat.le_of_ble_eq_true rfl⟩) (zPc_V (ci := 3) (q0 := 6) zB_T hP hK rfl rfl [6] rfl (fun _ _ _ => trivial)) rfl rfl hl.1 rfl (lv_room (Nat.le_of_ble_eq_true rfl)) dL_law_944 ⟨by show 22 + 4 * (j + 1) + 0 ≤ 601024; omega, by show 14465 + 24 * (j + 1) + 0 ≤ 7293034; omega⟩) hP hS (fun H locs hP hS => ?_)
      refine lv_iload hx hb dL_law_947 (lv_at hl 1 rfl) ?_
      refine lv_icmp_eq (tgt := 954) hx hb dL_law_949 (by decide) (fun _ => ?_) (fun c9 => absurd c9 (by decide))
      refine lv_iload hx hb dL_law_954 (lv_at hl 1 rfl) ?_
      refine lv_if_ne (tgt := 971) hx hb dL_law_956 (by decide) (fun _ => ?_) (fun c9 => absurd c9 (by decide))
      refine lv_goto (tgt := 974) hx hb dL_law_971 (by decide) ?_
      refine K _ _ _ ⟨k, tn, own, oth, mm, kk, ao, aq, mk, wn, cnt, lo, lq, 1, wf, wb, Af, lf, hf, tf, u7.2.1, u7.2.2, ff, u0, u9, dF, ⟨hk1, hsd, hO, hQ, hkk, htb, hmk, hmm, hwn, hhas, hrow, hl1, hl2, htf, hff⟩, hP⟩ hS (lv_sub hl [2, 3, 4, 5, 6, 7] rfl)

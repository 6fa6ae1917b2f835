/-! the law: begin, tell, move -/
theorem zok_j {j : Nat} (h1 : 1 ≤ j) (h4 : j ≤ 4) : zok j j := by
  rcases (show j = 1 ∨ j = 2 ∨ j = 3 ∨ j = 4 by omega) with rfl | rfl | rfl | rfl <;> exact ⟨by decide, by decide +kernel, by decide +kernel⟩
theorem zSd_sw {tn a0 a1 ao aq : Nat} (h : zSd tn a0 a1 ao aq) : zSd (1 - tn) a0 a1 aq ao := by
  rcases h with ⟨rfl, rfl, rfl⟩ | ⟨rfl, rfl, rfl⟩
  · exact Or.inr ⟨rfl, rfl, rfl⟩
  · exact Or.inl ⟨rfl, rfl, rfl⟩
set_option maxHeartbeats 4000000 in
set_option maxRecDepth 100000 in
theorem law_begin {p : Program} {l : Launch} {e : Env} {s : State} {m : MethodId} {args : Array Value} {below : List Frame} {meth : Method} {c : Code} {Q : State → Prop} {dC : Nat → ClassId} {dI : Nat → Nat → Nat} {cyI cyJ cyD : ClassId} {b L tb ax a0 a1 ae at_ aw bx bl ba bt bg be bf bw bs bm bn bb bu bh aL aD : Nat} {xs : Nat → Int32} (E0 : zLE p l s m args c dC dI cyI cyJ cyD b L tb ax a0 a1 ae at_ aw bx bl ba bt bg be bf bw bs bm bn bb bu bh aL aD xs) (j : Nat) (hj : 4 * j + 4 ≤ L) {H : Heap} {locs : List Loc} (hI : zInv dC dI cyI cyJ cyD ax a0 a1 ae at_ aw bx bl ba bt bg be bf bw bs bm bn bb bu bh aL aD H) (hS : va_S (fun q : Nat => s.heap.size ≤ q) s.heap H locs) {ls : Array Slot} (hl : lv_has ls 9 [(5, .int (nI (4 * j))), (4, .ref aD), (3, .ref aL), (2, .ref bx), (1, .ref ax), (0, .ref b)])
    (K : ∀ (H : Heap) (locs : List Loc) (ls : Array Slot), zInv dC dI cyI cyJ cyD ax a0 a1 ae at_ aw bx bl ba bt bg be bf bw bs bm bn bb bu bh aL aD H → va_S (fun q : Nat => s.heap.size ≤ q) s.heap H locs → lv_has ls 9 [(5, .int (nI (4 * j))), (4, .ref aD), (3, .ref aL), (2, .ref bx), (1, .ref ax), (0, .ref b)] → W p l e room_1 s m args below meth c H locs (22 + 4 * (j + 1)) (14465 + 24 * (j + 1)) Q (F0 m 974 ls [])) : W p l e room_1 s m args below meth c H locs (22 + 4 * j) (14465 + 24 * j) Q (F0 m 132 ls []) := by
  obtain ⟨hx, hb, hml, hown, hts, hX, hbl, hLL, hl0, hK3, hH, hAl⟩ := E0
  have hK := hK3.sub (tys' := [(cyI, .int), (cyJ, .long)]) [0, 1] rfl
  have hbA : ¬ (fun q : Nat => s.heap.size ≤ q) b := Nat.not_le.mpr hbl
  obtain ⟨k, tn, own, oth, mm, kk, ao, aq, mk, wn, cnt, lo, lq, thr, wf, wb, Af, lf, hf, tf, gf, ef, ff, u0, oF, dF, ⟨hk1, hsd, hO, hQ, hkk, htb, hmk, hmm, hwn, hhas, hrow, hl1, hl2, htf, hff⟩, hP⟩ := hI
  have hDD := zD_side hsd hAl
  have htn := zSd_le hsd
  obtain ⟨v1, hv1⟩ : ∃ v, v = xs (4 * j + 1) := ⟨_, rfl⟩
  refine lv_aload_n hx hb dL_law_132 rfl (lv_at hl 4 rfl) ?_
  refine lv_aload_n hx hb dL_law_133 rfl (lv_at hl 5 rfl) ?_
  refine lv_iload hx hb dL_law_134 (lv_at hl 0 rfl) ?_
  refine lv_iconst (v := 1) hx hb dL_law_136 (by decide) ?_
  refine lv_iadd hx hb dL_law_137 ?_
  refine zz_i (y := nI (4 * j + 1)) (nI_add (4 * j) 1) ?_
  refine va_sld hx hb hX hbl hbA hS (vp_in_nI (n := 4 * j + 1) (by omega) (by omega)) dL_law_138 ?_
  refine zz_i (y := v1) (by rw [nI_clamp (by omega), hv1]) ?_
  refine zlw_i (vx_runSX (As := [.ref ax, .int v1]) (rest := []) ⟨hx, hb, hml, hown, hts⟩ (c_L_begin l hl0 dC dI cyI cyJ tb ax a0 a1 ae aw ao aq tn (nI k) (nI tn) mk wn cnt lo lq (lN own) (lN oth) hsd v1 (z_nd hDD.1 [0, 1, 2] (by decide) rfl)) (vx_cwSW 2 hts gL_law_L_begin rfl rfl rfl (by decide +kernel) ⟨Nat.le_of_ble_eq_true rfl, Nat.le_of_ble_eq_true rfl⟩) (zPc_S zB_H hP hK [0, 1, 2] rfl (zH_at hH hS (fun q hq => hDD.2 q (zA_pl [0, 1, 2] rfl q hq)))) rfl rfl hl.1 rfl (lv_room (Nat.le_of_ble_eq_true rfl)) dL_law_139 ⟨by show 22 + 4 * j + 1 ≤ 601024; omega, by show 14465 + 24 * j + 6 ≤ 7293034; omega⟩) hP hDD hS [0, 1, 2] rfl (fun u => by cases u <;> rfl) (fun r9 u9 H locs hw hP hS => ?_)
  refine W.widen (k := 22 + 4 * (j + 1)) (n := 14465 + 24 * (j + 1)) (by omega) (by omega) ?_
  rcases hw with ⟨x8, e8, rfl, hw⟩ | ⟨e8, rfl, hw⟩
  · skip
    cases e8
    have hP : va_P (dC, dI) vwCl [(ax, .inr (2, [.ref a0, .ref a1, .ref ae, .ref aw, .int (nI x8), .int 0, .int (-1), .int (-1), .int 0])), (ao, .inr (1, [.long (lN x8), .int 0])), (aq, .inr (1, [.long (lN x8), .int 0])), (ae, .inr (0, [.ref at_, .int (nI kk)])), (at_, .inl (cyI, 13500, .inl wf)), (aw, .inl (cyI, 15, .inl wb)), (bx, .inr (3, [.int thr, .int (nI k), .int (nI tn), .int mk, .int wn, .int cnt, .ref bl, .ref ba, .ref bt, .ref bg, .ref be, .ref bf, .ref bw, .ref bs, .ref bm, .ref bn, .ref bb, .ref bu, .ref bh])), (bl, .inl (cyI, 2, .inl lf)), (ba, .inl (cyI, 32, .inl Af)), (bt, .inl (cyI, 5, .inl tf)), (bg, .inl (cyI, 225, .inl gf)), (be, .inl (cyI, 225, .inl ef)), (bf, .inl (cyI, 225, .inl ff)), (bw, .inl (cyI, 160, .inl u0.1)), (bs, .inl (cyI, 5, .inl u0.2.1)), (bm, .inl (cyI, 5, .inl u0.2.2.1)), (bn, .inl (cyI, 5, .inl u0.2.2.2.1)), (bb, .inl (cyI, 5, .inl u0.2.2.2.2.1)), (bu, .inl (cyJ, 5, .inr (.inl u0.2.2.2.2.2))), (bh, .inl (cyI, 15, .inl hf)), (aL, .inl (cyJ, 1, .inr (.inl oF))), (aD, .inl (cyD, 1, .inr (.inr (.inr (.inl dF)))))] H := hP
    refine lv_istore (lv' := [(6, .int 0), (5, .int (nI (4 * j))), (4, .ref aD), (3, .ref aL), (2, .ref bx), (1, .ref ax), (0, .ref b)]) hx hb dL_law_142 hl (by decide) rfl (fun ls hl => ?_)
    refine lv_aload_n hx hb dL_law_144 rfl (lv_at hl 4 rfl) ?_
    refine lv_aload_n hx hb dL_law_145 rfl (lv_at hl 6 rfl) ?_
    refine lv_iload hx hb dL_law_146 (lv_at hl 1 rfl) ?_
    refine lv_iconst (v := 1) hx hb dL_law_148 (by decide) ?_
    refine lv_iadd hx hb dL_law_149 ?_
    refine zz_i (y := nI (4 * j + 1)) (nI_add (4 * j) 1) ?_
    refine va_sld hx hb hX hbl hbA hS (vp_in_nI (n := 4 * j + 1) (by omega) (by omega)) dL_law_150 ?_
    refine zz_i (y := v1) (by rw [nI_clamp (by omega), hv1]) ?_
    refine zrw_v (w1 := fun u : (Int32 × Int32 × Int32 × Int32 × Int32 × Int32) × (Nat → Int32) × (Nat → Int32) => [(bx, .inr (3, [.int u.1.1, .int u.1.2.1, .int u.1.2.2.1, .int u.1.2.2.2.1, .int u.1.2.2.2.2.1, .int u.1.2.2.2.2.2, .ref bl, .ref ba, .ref bt, .ref bg, .ref be, .ref bf, .ref bw, .ref bs, .ref bm, .ref bn, .ref bb, .ref bu, .ref bh])), (ba, .inl (cyI, 32, .inl u.2.1)), (bl, .inl (cyI, 2, .inl u.2.2))]) (al := [bx, ba, bl]) (va_runV (As := [.int v1]) (rest := []) ⟨hx, hb, hml, hown, hts⟩ (c_X6_begin l dC dI cyI cyJ (nI k) bx bl ba bt bg be bf bw bs bm bn bb bu bh thr (nI tn) mk wn cnt Af lf v1 (z_nd hDD.1 [6, 8, 7] (by decide) rfl)) (cwV 1 hts gL_law_X6_begin rfl rfl rfl (by decide +kernel) ⟨Nat.le_of_ble_eq_true rfl, Nat.le_of_ble_eq_true rfl⟩) (zPc_V (ci := 3) (q0 := 6) zB_T hP hK rfl rfl [6, 8, 7] rfl (fun _ _ _ => trivial)) rfl rfl hl.1 rfl (lv_room (Nat.le_of_ble_eq_true rfl)) dL_law_151 ⟨by show 22 + 4 * (j + 1) + 0 ≤ 601024; omega, by show 14465 + 24 * (j + 1) + 0 ≤ 7293034; omega⟩) hP hDD hS [6, 8, 7] rfl (fun _ => rfl) (fun u7 H locs h7 hP hS => ?_)
    have hP : va_P (dC, dI) vwCl [(ax, .inr (2, [.ref a0, .ref a1, .ref ae, .ref aw, .int (nI x8), .int 0, .int (-1), .int (-1), .int 0])), (ao, .inr (1, [.long (lN x8), .int 0])), (aq, .inr (1, [.long (lN x8), .int 0])), (ae, .inr (0, [.ref at_, .int (nI kk)])), (at_, .inl (cyI, 13500, .inl wf)), (aw, .inl (cyI, 15, .inl wb)), (bx, .inr (3, [.int u7.1.1, .int u7.1.2.1, .int u7.1.2.2.1, .int u7.1.2.2.2.1, .int u7.1.2.2.2.2.1, .int u7.1.2.2.2.2.2, .ref bl, .ref ba, .ref bt, .ref bg, .ref be, .ref bf, .ref bw, .ref bs, .ref bm, .ref bn, .ref bb, .ref bu, .ref bh])), (bl, .inl (cyI, 2, .inl u7.2.2)), (ba, .inl (cyI, 32, .inl u7.2.1)), (bt, .inl (cyI, 5, .inl tf)), (bg, .inl (cyI, 225, .inl gf)), (be, .inl (cyI, 225, .inl ef)), (bf, .inl (cyI, 225, .inl ff)), (bw, .inl (cyI, 160, .inl u0.1)), (bs, .inl (cyI, 5, .inl u0.2.1)), (bm, .inl (cyI, 5, .inl u0.2.2.1)), (bn, .inl (cyI, 5, .inl u0.2.2.2.1)), (bb, .inl (cyI, 5, .inl u0.2.2.2.2.1)), (bu, .inl (cyJ, 5, .inr (.inl u0.2.2.2.2.2))), (bh, .inl (cyI, 15, .inl hf)), (aL, .inl (cyJ, 1, .inr (.inl oF))), (aD, .inl (cyD, 1, .inr (.inr (.inr (.inl dF)))))] H := hP
    rcases h7 with ⟨jj, g1, g2, g3, e7, hrow7, hl17, hl27⟩ | ⟨e7, e71, e72, h7⟩
    · skip
      obtain ⟨h1, h2, h3⟩ := hw
      obtain rfl : x8 = jj := (nI_eq (by omega) (by omega)).mp (h3.symm.trans g3)
      have q9 : u7.1.1 = 0 := congrArg (fun z : Int32 × Int32 × Int32 × Int32 × Int32 × Int32 => z.1) e7
      rw [q9] at hP
      have q9 : u7.1.2.1 = nI x8 := congrArg (fun z : Int32 × Int32 × Int32 × Int32 × Int32 × Int32 => z.2.1) e7
      rw [q9] at hP
      have q9 : u7.1.2.2.1 = 0 := congrArg (fun z : Int32 × Int32 × Int32 × Int32 × Int32 × Int32 => z.2.2.1) e7
      rw [q9] at hP
      have q9 : u7.1.2.2.2.1 = -1 := congrArg (fun z : Int32 × Int32 × Int32 × Int32 × Int32 × Int32 => z.2.2.2.1) e7
      rw [q9] at hP
      have q9 : u7.1.2.2.2.2.1 = -1 := congrArg (fun z : Int32 × Int32 × Int32 × Int32 × Int32 × Int32 => z.2.2.2.2.1) e7
      rw [q9] at hP
      have q9 : u7.1.2.2.2.2.2 = 0 := congrArg (fun z : Int32 × Int32 × Int32 × Int32 × Int32 × Int32 => z.2.2.2.2.2) e7
      rw [q9] at hP
      have hP : va_P (dC, dI) vwCl [(ax, .inr (2, [.ref a0, .ref a1, .ref ae, .ref aw, .int (nI x8), .int 0, .int (-1), .int (-1), .int 0])), (ao, .inr (1, [.long (lN x8), .int 0])), (aq, .inr (1, [.long (lN x8), .int 0])), (ae, .inr (0, [.ref at_, .int (nI kk)])), (at_, .inl (cyI, 13500, .inl wf)), (aw, .inl (cyI, 15, .inl wb)), (bx, .inr (3, [.int 0, .int (nI x8), .int 0, .int (-1), .int (-1), .int 0, .ref bl, .ref ba, .ref bt, .ref bg, .ref be, .ref bf, .ref bw, .ref bs, .ref bm, .ref bn, .ref bb, .ref bu, .ref bh])), (bl, .inl (cyI, 2, .inl u7.2.2)), (ba, .inl (cyI, 32, .inl u7.2.1)), (bt, .inl (cyI, 5, .inl tf)), (bg, .inl (cyI, 225, .inl gf)), (be, .inl (cyI, 225, .inl ef)), (bf, .inl (cyI, 225, .inl ff)), (bw, .inl (cyI, 160, .inl u0.1)), (bs, .inl (cyI, 5, .inl u0.2.1)), (bm, .inl (cyI, 5, .inl u0.2.2.1)), (bn, .inl (cyI, 5, .inl u0.2.2.2.1)), (bb, .inl (cyI, 5, .inl u0.2.2.2.2.1)), (bu, .inl (cyJ, 5, .inr (.inl u0.2.2.2.2.2))), (bh, .inl (cyI, 15, .inl hf)), (aL, .inl (cyJ, 1, .inr (.inl oF))), (aD, .inl (cyD, 1, .inr (.inr (.inr (.inl dF)))))] H := hP
      refine lv_aload_n hx hb dL_law_154 rfl (lv_at hl 4 rfl) ?_
      refine zro_i (va_runV (As := []) (rest := []) ⟨hx, hb, hml, hown, hts⟩ (c_X6_thrown l dC dI cyI cyJ (nI x8) bx bl ba bt bg be bf bw bs bm bn bb bu bh 0 0 (-1) (-1) 0) (cwV 0 hts gL_law_X6_thrown rfl rfl rfl (by decide +kernel) ⟨Nat.le_of_ble_eq_true rfl, Nat.le_of_ble_eq_true rfl⟩) (zPc_V (ci := 3) (q0 := 6) zB_T hP hK rfl rfl [6] rfl (fun _ _ _ => trivial)) rfl rfl hl.1 rfl (lv_room (Nat.le_of_ble_eq_true rfl)) dL_law_155 ⟨by show 22 + 4 * (j + 1) + 0 ≤ 601024; omega, by show 14465 + 24 * (j + 1) + 0 ≤ 7293034; omega⟩) hP hS (fun H locs hP hS => ?_)
      refine lv_iload hx hb dL_law_158 (lv_at hl 0 rfl) ?_
      refine lv_icmp_eq (tgt := 165) hx hb dL_law_160 (by decide) (fun _ => ?_) (fun c9 => absurd c9 (by decide))
      refine lv_goto (tgt := 974) hx hb dL_law_165 (by decide) ?_
      rcases hsd with ⟨-, rfl, rfl⟩ | ⟨-, rfl, rfl⟩
      · skip
        refine K _ _ _ ⟨x8, 0, x8, x8, 0, kk, ao, aq, (-1), (-1), 0, 0, 0, 0, wf, wb, u7.2.1, u7.2.2, hf, tf, gf, ef, ff, u0, oF, dF, ⟨h1, (Or.inl ⟨rfl, rfl, rfl⟩), (zok_j h1 h2), (zok_j h1 h2), hkk, htb, (Or.inr ⟨rfl, rfl⟩), (by decide), (Or.inl rfl), (fun h => absurd rfl h), hrow7, hl17, hl27, htf, hff⟩, hP⟩ hS (lv_sub hl [1, 2, 3, 4, 5, 6] rfl)
      · skip
        refine K _ _ _ ⟨x8, 0, x8, x8, 0, kk, aq, ao, (-1), (-1), 0, 0, 0, 0, wf, wb, u7.2.1, u7.2.2, hf, tf, gf, ef, ff, u0, oF, dF, ⟨h1, (Or.inl ⟨rfl, rfl, rfl⟩), (zok_j h1 h2), (zok_j h1 h2), hkk, htb, (Or.inr ⟨rfl, rfl⟩), (by decide), (Or.inl rfl), (fun h => absurd rfl h), hrow7, hl17, hl27, htf, hff⟩, (hP.sub [0, 2, 1, 3, 4, 5, 6, 7, 8, 9, 10, 11, 12, 13, 14, 15, 16, 17, 18, 19, 20, 21] rfl)⟩ hS (lv_sub hl [1, 2, 3, 4, 5, 6] rfl)
    · skip
      obtain ⟨h1, h2, h3⟩ := hw
      exact absurd (by rw [h3]; exact ⟨(nI_leI (a := 1) (by omega) (by omega)).mpr h1, (nI_leI (b := 4) (by omega) (by omega)).mpr h2⟩) h7
  · skip
    cases e8
    have hP : va_P (dC, dI) vwCl [(ax, .inr (2, [.ref a0, .ref a1, .ref ae, .ref aw, .int (nI k), .int (nI tn), .int mk, .int wn, .int cnt])), (ao, .inr (1, [.long (lN own), .int lo])), (aq, .inr (1, [.long (lN oth), .int lq])), (ae, .inr (0, [.ref at_, .int (nI kk)])), (at_, .inl (cyI, 13500, .inl wf)), (aw, .inl (cyI, 15, .inl wb)), (bx, .inr (3, [.int thr, .int (nI k), .int (nI tn), .int mk, .int wn, .int cnt, .ref bl, .ref ba, .ref bt, .ref bg, .ref be, .ref bf, .ref bw, .ref bs, .ref bm, .ref bn, .ref bb, .ref bu, .ref bh])), (bl, .inl (cyI, 2, .inl lf)), (ba, .inl (cyI, 32, .inl Af)), (bt, .inl (cyI, 5, .inl tf)), (bg, .inl (cyI, 225, .inl gf)), (be, .inl (cyI, 225, .inl ef)), (bf, .inl (cyI, 225, .inl ff)), (bw, .inl (cyI, 160, .inl u0.1)), (bs, .inl (cyI, 5, .inl u0.2.1)), (bm, .inl (cyI, 5, .inl u0.2.2.1)), (bn, .inl (cyI, 5, .inl u0.2.2.2.1)), (bb, .inl (cyI, 5, .inl u0.2.2.2.2.1)), (bu, .inl (cyJ, 5, .inr (.inl u0.2.2.2.2.2))), (bh, .inl (cyI, 15, .inl hf)), (aL, .inl (cyJ, 1, .inr (.inl oF))), (aD, .inl (cyD, 1, .inr (.inr (.inr (.inl dF)))))] H := hP
    refine lv_istore (lv' := [(6, .int 1), (5, .int (nI (4 * j))), (4, .ref aD), (3, .ref aL), (2, .ref bx), (1, .ref ax), (0, .ref b)]) hx hb dL_law_142 hl (by decide) rfl (fun ls hl => ?_)
    refine lv_aload_n hx hb dL_law_144 rfl (lv_at hl 4 rfl) ?_
    refine lv_aload_n hx hb dL_law_145 rfl (lv_at hl 6 rfl) ?_
    refine lv_iload hx hb dL_law_146 (lv_at hl 1 rfl) ?_
    refine lv_iconst (v := 1) hx hb dL_law_148 (by decide) ?_
    refine lv_iadd hx hb dL_law_149 ?_
    refine zz_i (y := nI (4 * j + 1)) (nI_add (4 * j) 1) ?_
    refine va_sld hx hb hX hbl hbA hS (vp_in_nI (n := 4 * j + 1) (by omega) (by omega)) dL_law_150 ?_
    refine zz_i (y := v1) (by rw [nI_clamp (by omega), hv1]) ?_
    refine zrw_v (w1 := fun u : (Int32 × Int32 × Int32 × Int32 × Int32 × Int32) × (Nat → Int32) × (Nat → Int32) => [(bx, .inr (3, [.int u.1.1, .int u.1.2.1, .int u.1.2.2.1, .int u.1.2.2.2.1, .int u.1.2.2.2.2.1, .int u.1.2.2.2.2.2, .ref bl, .ref ba, .ref bt, .ref bg, .ref be, .ref bf, .ref bw, .ref bs, .ref bm, .ref bn, .ref bb, .ref bu, .ref bh])), (ba, .inl (cyI, 32, .inl u.2.1)), (bl, .inl (cyI, 2, .inl u.2.2))]) (al := [bx, ba, bl]) (va_runV (As := [.int v1]) (rest := []) ⟨hx, hb, hml, hown, hts⟩ (c_X6_begin l dC dI cyI cyJ (nI k) bx bl ba bt bg be bf bw bs bm bn bb bu bh thr (nI tn) mk wn cnt Af lf v1 (z_nd hDD.1 [6, 8, 7] (by decide) rfl)) (cwV 1 hts gL_law_X6_begin rfl rfl rfl (by decide +kernel) ⟨Nat.le_of_ble_eq_true rfl, Nat.le_of_ble_eq_true rfl⟩) (zPc_V (ci := 3) (q0 := 6) zB_T hP hK rfl rfl [6, 8, 7] rfl (fun _ _ _ => trivial)) rfl rfl hl.1 rfl (lv_room (Nat.le_of_ble_eq_true rfl)) dL_law_151 ⟨by show 22 + 4 * (j + 1) + 0 ≤ 601024; omega, by show 14465 + 24 * (j + 1) + 0 ≤ 7293034; omega⟩) hP hDD hS [6, 8, 7] rfl (fun _ => rfl) (fun u7 H locs h7 hP hS => ?_)
    have hP : va_P (dC, dI) vwCl [(ax, .inr (2, [.ref a0, .ref a1, .ref ae, .ref aw, .int (nI k), .int (nI tn), .int mk, .int wn, .int cnt])), (ao, .inr (1, [.long (lN own), .int lo])), (aq, .inr (1, [.long (lN oth), .int lq])), (ae, .inr (0, [.ref at_, .int (nI kk)])), (at_, .inl (cyI, 13500, .inl wf)), (aw, .inl (cyI, 15, .inl wb)), (bx, .inr (3, [.int u7.1.1, .int u7.1.2.1, .int u7.1.2.2.1, .int u7.1.2.2.2.1, .int u7.1.2.2.2.2.1, .int u7.1.2.2.2.2.2, .ref bl, .ref ba, .ref bt, .ref bg, .ref be, .ref bf, .ref bw, .ref bs, .ref bm, .ref bn, .ref bb, .ref bu, .ref bh])), (bl, .inl (cyI, 2, .inl u7.2.2)), (ba, .inl (cyI, 32, .inl u7.2.1)), (bt, .inl (cyI, 5, .inl tf)), (bg, .inl (cyI, 225, .inl gf)), (be, .inl (cyI, 225, .inl ef)), (bf, .inl (cyI, 225, .inl ff)), (bw, .inl (cyI, 160, .inl u0.1)), (bs, .inl (cyI, 5, .inl u0.2.1)), (bm, .inl (cyI, 5, .inl u0.2.2.1)), (bn, .inl (cyI, 5, .inl u0.2.2.2.1)), (bb, .inl (cyI, 5, .inl u0.2.2.2.2.1)), (bu, .inl (cyJ, 5, .inr (.inl u0.2.2.2.2.2))), (bh, .inl (cyI, 15, .inl hf)), (aL, .inl (cyJ, 1, .inr (.inl oF))), (aD, .inl (cyD, 1, .inr (.inr (.inr (.inl dF)))))] H := hP
    rcases h7 with ⟨jj, g1, g2, g3, e7, hrow7, hl17, hl27⟩ | ⟨e7, e71, e72, h7⟩
    · skip
      exact absurd (by rw [g3]; exact ⟨(nI_leI (a := 1) (by omega) (by omega)).mpr g1, (nI_leI (b := 4) (by omega) (by omega)).mpr g2⟩) hw
    · skip
      have q9 : u7.1.1 = 1 := congrArg (fun z : Int32 × Int32 × Int32 × Int32 × Int32 × Int32 => z.1) e7
      rw [q9] at hP
      have q9 : u7.1.2.1 = nI k := congrArg (fun z : Int32 × Int32 × Int32 × Int32 × Int32 × Int32 => z.2.1) e7
      rw [q9] at hP
      have q9 : u7.1.2.2.1 = nI tn := congrArg (fun z : Int32 × Int32 × Int32 × Int32 × Int32 × Int32 => z.2.2.1) e7
      rw [q9] at hP
      have q9 : u7.1.2.2.2.1 = mk := congrArg (fun z : Int32 × Int32 × Int32 × Int32 × Int32 × Int32 => z.2.2.2.1) e7
      rw [q9] at hP
      have q9 : u7.1.2.2.2.2.1 = wn := congrArg (fun z : Int32 × Int32 × Int32 × Int32 × Int32 × Int32 => z.2.2.2.2.1) e7
      rw [q9] at hP
      have q9 : u7.1.2.2.2.2.2 = cnt := congrArg (fun z : Int32 × Int32 × Int32 × Int32 × Int32 × Int32 => z.2.2.2.2.2) e7
      rw [q9] at hP
      rw [e71, e72] at hP
      have hP : va_P (dC, dI) vwCl [(ax, .inr (2, [.ref a0, .ref a1, .ref ae, .ref aw, .int (nI k), .int (nI tn), .int mk, .int wn, .int cnt])), (ao, .inr (1, [.long (lN own), .int lo])), (aq, .inr (1, [.long (lN oth), .int lq])), (ae, .inr (0, [.ref at_, .int (nI kk)])), (at_, .inl (cyI, 13500, .inl wf)), (aw, .inl (cyI, 15, .inl wb)), (bx, .inr (3, [.int 1, .int (nI k), .int (nI tn), .int mk, .int wn, .int cnt, .ref bl, .ref ba, .ref bt, .ref bg, .ref be, .ref bf, .ref bw, .ref bs, .ref bm, .ref bn, .ref bb, .ref bu, .ref bh])), (bl, .inl (cyI, 2, .inl lf)), (ba, .inl (cyI, 32, .inl Af)), (bt, .inl (cyI, 5, .inl tf)), (bg, .inl (cyI, 225, .inl gf)), (be, .inl (cyI, 225, .inl ef)), (bf, .inl (cyI, 225, .inl ff)), (bw, .inl (cyI, 160, .inl u0.1)), (bs, .inl (cyI, 5, .inl u0.2.1)), (bm, .inl (cyI, 5, .inl u0.2.2.1)), (bn, .inl (cyI, 5, .inl u0.2.2.2.1)), (bb, .inl (cyI, 5, .inl u0.2.2.2.2.1)), (bu, .inl (cyJ, 5, .inr (.inl u0.2.2.2.2.2))), (bh, .inl (cyI, 15, .inl hf)), (aL, .inl (cyJ, 1, .inr (.inl oF))), (aD, .inl (cyD, 1, .inr (.inr (.inr (.inl dF)))))] H := hP
      refine lv_aload_n hx hb dL_law_154 rfl (lv_at hl 4 rfl) ?_
      refine zro_i (va_runV (As := []) (rest := []) ⟨hx, hb, hml, hown, hts⟩ (c_X6_thrown l dC dI cyI cyJ (nI k) bx bl ba bt bg be bf bw bs bm bn bb bu bh 1 (nI tn) mk wn cnt) (cwV 0 hts gL_law_X6_thrown rfl rfl rfl (by decide +kernel) ⟨Nat.le_of_ble_eq_true rfl, Nat.le_of_ble_eq_true rfl⟩) (zPc_V (ci := 3) (q0 := 6) zB_T hP hK rfl rfl [6] rfl (fun _ _ _ => trivial)) rfl rfl hl.1 rfl (lv_room (Nat.le_of_ble_eq_true rfl)) dL_law_155 ⟨by show 22 + 4 * (j + 1) + 0 ≤ 601024; omega, by show 14465 + 24 * (j + 1) + 0 ≤ 7293034; omega⟩) hP hS (fun H locs hP hS => ?_)
      refine lv_iload hx hb dL_law_158 (lv_at hl 0 rfl) ?_
      refine lv_icmp_eq (tgt := 165) hx hb dL_law_160 (by decide) (fun _ => ?_) (fun c9 => absurd c9 (by decide))
      refine lv_goto (tgt := 974) hx hb dL_law_165 (by decide) ?_
      refine K _ _ _ ⟨k, tn, own, oth, mm, kk, ao, aq, mk, wn, cnt, lo, lq, 1, wf, wb, Af, lf, hf, tf, gf, ef, ff, u0, oF, dF, ⟨hk1, hsd, hO, hQ, hkk, htb, hmk, hmm, hwn, hhas, hrow, hl1, hl2, htf, hff⟩, hP⟩ hS (lv_sub hl [1, 2, 3, 4, 5, 6] rfl)

set_option maxHeartbeats 4000000 in
set_option maxRecDepth 100000 in
theorem law_tell {p : Program} {l : Launch} {e : Env} {s : State} {m : MethodId} {args : Array Value} {below : List Frame} {meth : Method} {c : Code} {Q : State → Prop} {dC : Nat → ClassId} {dI : Nat → Nat → Nat} {cyI cyJ cyD : ClassId} {b L tb ax a0 a1 ae at_ aw bx bl ba bt bg be bf bw bs bm bn bb bu bh aL aD : Nat} {xs : Nat → Int32} (E0 : zLE p l s m args c dC dI cyI cyJ cyD b L tb ax a0 a1 ae at_ aw bx bl ba bt bg be bf bw bs bm bn bb bu bh aL aD xs) (j : Nat) (hj : 4 * j + 4 ≤ L) {H : Heap} {locs : List Loc} (hI : zInv dC dI cyI cyJ cyD ax a0 a1 ae at_ aw bx bl ba bt bg be bf bw bs bm bn bb bu bh aL aD H) (hS : va_S (fun q : Nat => s.heap.size ≤ q) s.heap H locs) {ls : Array Slot} (hl : lv_has ls 9 [(5, .int (nI (4 * j))), (4, .ref aD), (3, .ref aL), (2, .ref bx), (1, .ref ax), (0, .ref b)])
    (K : ∀ (H : Heap) (locs : List Loc) (ls : Array Slot), zInv dC dI cyI cyJ cyD ax a0 a1 ae at_ aw bx bl ba bt bg be bf bw bs bm bn bb bu bh aL aD H → va_S (fun q : Nat => s.heap.size ≤ q) s.heap H locs → lv_has ls 9 [(5, .int (nI (4 * j))), (4, .ref aD), (3, .ref aL), (2, .ref bx), (1, .ref ax), (0, .ref b)] → W p l e room_1 s m args below meth c H locs (22 + 4 * (j + 1)) (14465 + 24 * (j + 1)) Q (F0 m 974 ls [])) : W p l e room_1 s m args below meth c H locs (22 + 4 * j) (14465 + 24 * j) Q (F0 m 168 ls []) := by
  obtain ⟨hx, hb, hml, hown, hts, hX, hbl, hLL, hl0, hK3, hH, hAl⟩ := E0
  have hK := hK3.sub (tys' := [(cyI, .int), (cyJ, .long)]) [0, 1] rfl
  have hbA : ¬ (fun q : Nat => s.heap.size ≤ q) b := Nat.not_le.mpr hbl
  obtain ⟨k, tn, own, oth, mm, kk, ao, aq, mk, wn, cnt, lo, lq, thr, wf, wb, Af, lf, hf, tf, gf, ef, ff, u0, oF, dF, ⟨hk1, hsd, hO, hQ, hkk, htb, hmk, hmm, hwn, hhas, hrow, hl1, hl2, htf, hff⟩, hP⟩ := hI
  have hDD := zD_side hsd hAl
  have htn := zSd_le hsd
  obtain ⟨v1, hv1⟩ : ∃ v, v = xs (4 * j + 1) := ⟨_, rfl⟩
  refine lv_aload_n hx hb dL_law_168 rfl (lv_at hl 4 rfl) ?_
  refine lv_aload_n hx hb dL_law_169 rfl (lv_at hl 5 rfl) ?_
  refine lv_iload hx hb dL_law_170 (lv_at hl 0 rfl) ?_
  refine lv_iconst (v := 1) hx hb dL_law_172 (by decide) ?_
  refine lv_iadd hx hb dL_law_173 ?_
  refine zz_i (y := nI (4 * j + 1)) (nI_add (4 * j) 1) ?_
  refine va_sld hx hb hX hbl hbA hS (vp_in_nI (n := 4 * j + 1) (by omega) (by omega)) dL_law_174 ?_
  refine zz_i (y := v1) (by rw [nI_clamp (by omega), hv1]) ?_
  refine lv_aload_n hx hb dL_law_175 rfl (lv_at hl 2 rfl) ?_
  refine zlw_i (vx_runSX (As := [.ref ax, .int v1, .ref aL]) (rest := []) ⟨hx, hb, hml, hown, hts⟩ (c_L_tell l hl0 dC dI cyI cyJ tb ax a0 a1 ae aw ao aq mk wn cnt lo lq k tn own oth mm hsd hO hQ hmk hmm v1 aL oF (z_nd hDD.1 [0, 1, 2, 20] (by decide) rfl)) (vx_cwSW 3 hts gL_law_L_tell rfl rfl rfl (by decide +kernel) ⟨Nat.le_of_ble_eq_true rfl, Nat.le_of_ble_eq_true rfl⟩) (zPc_S zB_H hP hK [0, 1, 2, 20] rfl (zH_at hH hS (fun q hq => hDD.2 q (zA_pl [0, 1, 2, 20] rfl q hq)))) rfl rfl hl.1 rfl (lv_room (Nat.le_of_ble_eq_true rfl)) dL_law_176 ⟨by show 22 + 4 * j + 2 ≤ 601024; omega, by show 14465 + 24 * j + 12 ≤ 7293034; omega⟩) hP hDD hS [0, 1, 2, 20] rfl (fun u => by rcases u with ⟨_ | _, _⟩ <;> rfl) (fun r9 u9 H locs hw hP hS => ?_)
  refine W.widen (k := 22 + 4 * (j + 1)) (n := 14465 + 24 * (j + 1)) (by omega) (by omega) ?_
  obtain ⟨u8, oF⟩ := u9
  rcases hw with ⟨x8, r8, e8, rfl, hw, hout⟩ | ⟨e8, ⟨rfl, hw⟩ | ⟨rfl, hw⟩⟩
  · skip
    cases e8
    have hP : va_P (dC, dI) vwCl [(ax, .inr (2, [.ref a0, .ref a1, .ref ae, .ref aw, .int (nI k), .int x8.1, .int x8.2, .int wn, .int (cnt + 1)])), (ao, .inr (1, [.long (lN own), .int lo])), (aq, .inr (1, [.long (lN oth), .int lq])), (ae, .inr (0, [.ref at_, .int (nI kk)])), (at_, .inl (cyI, 13500, .inl wf)), (aw, .inl (cyI, 15, .inl wb)), (bx, .inr (3, [.int thr, .int (nI k), .int (nI tn), .int mk, .int wn, .int cnt, .ref bl, .ref ba, .ref bt, .ref bg, .ref be, .ref bf, .ref bw, .ref bs, .ref bm, .ref bn, .ref bb, .ref bu, .ref bh])), (bl, .inl (cyI, 2, .inl lf)), (ba, .inl (cyI, 32, .inl Af)), (bt, .inl (cyI, 5, .inl tf)), (bg, .inl (cyI, 225, .inl gf)), (be, .inl (cyI, 225, .inl ef)), (bf, .inl (cyI, 225, .inl ff)), (bw, .inl (cyI, 160, .inl u0.1)), (bs, .inl (cyI, 5, .inl u0.2.1)), (bm, .inl (cyI, 5, .inl u0.2.2.1)), (bn, .inl (cyI, 5, .inl u0.2.2.2.1)), (bb, .inl (cyI, 5, .inl u0.2.2.2.2.1)), (bu, .inl (cyJ, 5, .inr (.inl u0.2.2.2.2.2))), (bh, .inl (cyI, 15, .inl hf)), (aL, .inl (cyJ, 1, .inr (.inl oF))), (aD, .inl (cyD, 1, .inr (.inr (.inr (.inl dF)))))] H := hP
    refine lv_istore (lv' := [(6, .int 0), (5, .int (nI (4 * j))), (4, .ref aD), (3, .ref aL), (2, .ref bx), (1, .ref ax), (0, .ref b)]) hx hb dL_law_179 hl (by decide) rfl (fun ls hl => ?_)
    refine lv_aload_n hx hb dL_law_181 rfl (lv_at hl 4 rfl) ?_
    refine lv_aload_n hx hb dL_law_182 rfl (lv_at hl 6 rfl) ?_
    refine lv_iload hx hb dL_law_183 (lv_at hl 1 rfl) ?_
    refine lv_iconst (v := 1) hx hb dL_law_185 (by decide) ?_
    refine lv_iadd hx hb dL_law_186 ?_
    refine zz_i (y := nI (4 * j + 1)) (nI_add (4 * j) 1) ?_
    refine va_sld hx hb hX hbl hbA hS (vp_in_nI (n := 4 * j + 1) (by omega) (by omega)) dL_law_187 ?_
    refine zz_i (y := v1) (by rw [nI_clamp (by omega), hv1]) ?_
    refine zrw_i (w1 := fun u : Int32 × Int32 × Int32 × Int32 × Int32 × Int32 => [(bx, .inr (3, [.int u.1, .int u.2.1, .int u.2.2.1, .int u.2.2.2.1, .int u.2.2.2.2.1, .int u.2.2.2.2.2, .ref bl, .ref ba, .ref bt, .ref bg, .ref be, .ref bf, .ref bw, .ref bs, .ref bm, .ref bn, .ref bb, .ref bu, .ref bh])), (ba, .inl (cyI, 32, .inl Af))]) (al := [bx, ba]) (va_runV (As := [.int v1]) (rest := []) ⟨hx, hb, hml, hown, hts⟩ (c_X6_tell l dC dI cyI cyJ k bx bl ba bt bg be bf bw bs bm bn bb bu bh thr mk wn cnt Af tn own oth htn hrow v1 (z_nd hDD.1 [6, 8] (by decide) rfl)) (cwV 1 hts gL_law_X6_tell rfl rfl rfl (by decide +kernel) ⟨Nat.le_of_ble_eq_true rfl, Nat.le_of_ble_eq_true rfl⟩) (zPc_V (ci := 3) (q0 := 6) zB_T hP hK rfl rfl [6, 8] rfl (fun _ _ _ => trivial)) rfl rfl hl.1 rfl (lv_room (Nat.le_of_ble_eq_true rfl)) dL_law_188 ⟨by show 22 + 4 * (j + 1) + 0 ≤ 601024; omega, by show 14465 + 24 * (j + 1) + 0 ≤ 7293034; omega⟩) hP hDD hS [6, 8] rfl (fun _ => rfl) (fun r7 u7 H locs h7 hP hS => ?_)
    have hP : va_P (dC, dI) vwCl [(ax, .inr (2, [.ref a0, .ref a1, .ref ae, .ref aw, .int (nI k), .int x8.1, .int x8.2, .int wn, .int (cnt + 1)])), (ao, .inr (1, [.long (lN own), .int lo])), (aq, .inr (1, [.long (lN oth), .int lq])), (ae, .inr (0, [.ref at_, .int (nI kk)])), (at_, .inl (cyI, 13500, .inl wf)), (aw, .inl (cyI, 15, .inl wb)), (bx, .inr (3, [.int u7.1, .int u7.2.1, .int u7.2.2.1, .int u7.2.2.2.1, .int u7.2.2.2.2.1, .int u7.2.2.2.2.2, .ref bl, .ref ba, .ref bt, .ref bg, .ref be, .ref bf, .ref bw, .ref bs, .ref bm, .ref bn, .ref bb, .ref bu, .ref bh])), (bl, .inl (cyI, 2, .inl lf)), (ba, .inl (cyI, 32, .inl Af)), (bt, .inl (cyI, 5, .inl tf)), (bg, .inl (cyI, 225, .inl gf)), (be, .inl (cyI, 225, .inl ef)), (bf, .inl (cyI, 225, .inl ff)), (bw, .inl (cyI, 160, .inl u0.1)), (bs, .inl (cyI, 5, .inl u0.2.1)), (bm, .inl (cyI, 5, .inl u0.2.2.1)), (bn, .inl (cyI, 5, .inl u0.2.2.2.1)), (bb, .inl (cyI, 5, .inl u0.2.2.2.2.1)), (bu, .inl (cyJ, 5, .inr (.inl u0.2.2.2.2.2))), (bh, .inl (cyI, 15, .inl hf)), (aL, .inl (cyJ, 1, .inr (.inl oF))), (aD, .inl (cyD, 1, .inr (.inr (.inr (.inl dF)))))] H := hP
    rcases h7 with ⟨e7, h7⟩ | ⟨e7, hz7, h7⟩ | ⟨e7, h7⟩
    · skip
      obtain ⟨mj, h1, h2, h3, h4, h5, h6, h7b⟩ := hw
      exact absurd ((zin_iff (n := 4) (by decide)).mpr ⟨mj, h1, h2⟩) h7
    · skip
      obtain ⟨mj, h1, h2, h3, h4, h5, h6, h7b⟩ := hw
      exact absurd ⟨h3, h4⟩ h7
    · skip
      obtain ⟨mj, h1, h2, hw1, hm1, h5, h6, h60⟩ := hw
      obtain ⟨mj2, g1, g2, g3, g4, g5, g6, g60⟩ := h7
      obtain rfl : mj = mj2 := (nI_eq (by omega) (by omega)).mp (h2.symm.trans g2)
      have hout8 : oF 0 = (r7 : Int32).toInt64 := by rw [show oF 0 = _ from hout, h5, g5]
      have q9 : u7.1 = 0 := congrArg (fun z : Int32 × Int32 × Int32 × Int32 × Int32 × Int32 => z.1) e7
      rw [q9] at hP
      have q9 : u7.2.1 = nI k := congrArg (fun z : Int32 × Int32 × Int32 × Int32 × Int32 × Int32 => z.2.1) e7
      rw [q9] at hP
      have q9 : u7.2.2.2.2.1 = wn := congrArg (fun z : Int32 × Int32 × Int32 × Int32 × Int32 × Int32 => z.2.2.2.2.1) e7
      rw [q9] at hP
      have q9 : u7.2.2.2.2.2 = cnt + 1 := congrArg (fun z : Int32 × Int32 × Int32 × Int32 × Int32 × Int32 => z.2.2.2.2.2) e7
      rw [q9] at hP
      have hP : va_P (dC, dI) vwCl [(ax, .inr (2, [.ref a0, .ref a1, .ref ae, .ref aw, .int (nI k), .int x8.1, .int x8.2, .int wn, .int (cnt + 1)])), (ao, .inr (1, [.long (lN own), .int lo])), (aq, .inr (1, [.long (lN oth), .int lq])), (ae, .inr (0, [.ref at_, .int (nI kk)])), (at_, .inl (cyI, 13500, .inl wf)), (aw, .inl (cyI, 15, .inl wb)), (bx, .inr (3, [.int 0, .int (nI k), .int u7.2.2.1, .int u7.2.2.2.1, .int wn, .int (cnt + 1), .ref bl, .ref ba, .ref bt, .ref bg, .ref be, .ref bf, .ref bw, .ref bs, .ref bm, .ref bn, .ref bb, .ref bu, .ref bh])), (bl, .inl (cyI, 2, .inl lf)), (ba, .inl (cyI, 32, .inl Af)), (bt, .inl (cyI, 5, .inl tf)), (bg, .inl (cyI, 225, .inl gf)), (be, .inl (cyI, 225, .inl ef)), (bf, .inl (cyI, 225, .inl ff)), (bw, .inl (cyI, 160, .inl u0.1)), (bs, .inl (cyI, 5, .inl u0.2.1)), (bm, .inl (cyI, 5, .inl u0.2.2.1)), (bn, .inl (cyI, 5, .inl u0.2.2.2.1)), (bb, .inl (cyI, 5, .inl u0.2.2.2.2.1)), (bu, .inl (cyJ, 5, .inr (.inl u0.2.2.2.2.2))), (bh, .inl (cyI, 15, .inl hf)), (aL, .inl (cyJ, 1, .inr (.inl oF))), (aD, .inl (cyD, 1, .inr (.inr (.inr (.inl dF)))))] H := hP
      refine lv_istore (lv' := [(7, .int r7), (6, .int 0), (5, .int (nI (4 * j))), (4, .ref aD), (3, .ref aL), (2, .ref bx), (1, .ref ax), (0, .ref b)]) hx hb dL_law_191 hl (by decide) rfl (fun ls hl => ?_)
      refine lv_aload_n hx hb dL_law_193 rfl (lv_at hl 5 rfl) ?_
      refine zro_i (va_runV (As := []) (rest := []) ⟨hx, hb, hml, hown, hts⟩ (c_X6_thrown l dC dI cyI cyJ (nI k) bx bl ba bt bg be bf bw bs bm bn bb bu bh 0 u7.2.2.1 u7.2.2.2.1 wn (cnt + 1)) (cwV 0 hts gL_law_X6_thrown rfl rfl rfl (by decide +kernel) ⟨Nat.le_of_ble_eq_true rfl, Nat.le_of_ble_eq_true rfl⟩) (zPc_V (ci := 3) (q0 := 6) zB_T hP hK rfl rfl [6] rfl (fun _ _ _ => trivial)) rfl rfl hl.1 rfl (lv_room (Nat.le_of_ble_eq_true rfl)) dL_law_194 ⟨by show 22 + 4 * (j + 1) + 0 ≤ 601024; omega, by show 14465 + 24 * (j + 1) + 0 ≤ 7293034; omega⟩) hP hS (fun H locs hP hS => ?_)
      refine lv_iload hx hb dL_law_197 (lv_at hl 1 rfl) ?_
      refine lv_icmp_eq (tgt := 204) hx hb dL_law_199 (by decide) (fun _ => ?_) (fun c9 => absurd c9 (by decide))
      refine lv_iload hx hb dL_law_204 (lv_at hl 1 rfl) ?_
      refine lv_if_ne (tgt := 221) hx hb dL_law_206 (by decide) (fun c9 => absurd c9 (by decide)) (fun _ => ?_)
      refine lv_aload_n hx hb dL_law_209 rfl (lv_at hl 4 rfl) ?_
      refine lv_iconst (v := 0) hx hb dL_law_210 (by decide) ?_
      refine zi_lald hx hb hK hP 20 1 rfl rfl (j := 0) rfl (by omega) (by decide) dL_law_211 ?_
      refine zz_l (y := (r7 : Int32).toInt64) hout8 ?_
      refine lv_iload hx hb dL_law_212 (lv_at hl 0 rfl) ?_
      refine lv_i2l (v := (r7 : Int32).toInt64) hx hb dL_law_214 rfl ?_
      refine W.lcmp hx hb dL_law_215 ?_
      refine zz_i (y := 0) (lg_same _) ?_
      refine lv_if_eq (tgt := 221) hx hb dL_law_216 (by decide) (fun _ => ?_) (fun c9 => absurd c9 (by decide))
      refine lv_goto (tgt := 974) hx hb dL_law_221 (by decide) ?_
      by_cases hz : zNum own oth mj 15 = 0
      · skip
        rw [show x8.1 = _ from h6, show x8.2 = _ from h60, g6, g60, if_pos hz, if_pos hz] at hP
        refine K _ _ _ ⟨k, (1 - tn), oth, own, 0, kk, aq, ao, (-1), wn, (cnt + 1), lq, lo, 0, wf, wb, Af, lf, hf, tf, gf, ef, ff, u0, oF, dF, ⟨hk1, (zSd_sw hsd), hQ, hO, hkk, htb, (Or.inr ⟨rfl, rfl⟩), (by decide), (Or.inl rfl), (fun h => absurd rfl h), (hrow.sw htn), hl2, (by rw [show 1 - (1 - tn) = tn by omega]; exact hl1), htf, hff⟩, (hP.sub [0, 2, 1, 3, 4, 5, 6, 7, 8, 9, 10, 11, 12, 13, 14, 15, 16, 17, 18, 19, 20, 21] rfl)⟩ hS (lv_sub hl [2, 3, 4, 5, 6, 7] rfl)
      · skip
        rw [show x8.1 = _ from h6, show x8.2 = _ from h60, g6, g60, if_neg hz, if_neg hz] at hP
        refine K _ _ _ ⟨k, tn, own, oth, mj, kk, ao, aq, (nI mj), wn, (cnt + 1), lo, lq, 0, wf, wb, Af, lf, hf, tf, gf, ef, ff, u0, oF, dF, ⟨hk1, hsd, hO, hQ, hkk, htb, (Or.inl rfl), h1, (Or.inr hw1), (fun _ => (zHas_num own oth mj 15).mpr hz), hrow, hl1, hl2, htf, hff⟩, hP⟩ hS (lv_sub hl [2, 3, 4, 5, 6, 7] rfl)
  · skip
    cases e8
    have hP : va_P (dC, dI) vwCl [(ax, .inr (2, [.ref a0, .ref a1, .ref ae, .ref aw, .int (nI k), .int (nI tn), .int mk, .int wn, .int cnt])), (ao, .inr (1, [.long (lN own), .int lo])), (aq, .inr (1, [.long (lN oth), .int lq])), (ae, .inr (0, [.ref at_, .int (nI kk)])), (at_, .inl (cyI, 13500, .inl wf)), (aw, .inl (cyI, 15, .inl wb)), (bx, .inr (3, [.int thr, .int (nI k), .int (nI tn), .int mk, .int wn, .int cnt, .ref bl, .ref ba, .ref bt, .ref bg, .ref be, .ref bf, .ref bw, .ref bs, .ref bm, .ref bn, .ref bb, .ref bu, .ref bh])), (bl, .inl (cyI, 2, .inl lf)), (ba, .inl (cyI, 32, .inl Af)), (bt, .inl (cyI, 5, .inl tf)), (bg, .inl (cyI, 225, .inl gf)), (be, .inl (cyI, 225, .inl ef)), (bf, .inl (cyI, 225, .inl ff)), (bw, .inl (cyI, 160, .inl u0.1)), (bs, .inl (cyI, 5, .inl u0.2.1)), (bm, .inl (cyI, 5, .inl u0.2.2.1)), (bn, .inl (cyI, 5, .inl u0.2.2.2.1)), (bb, .inl (cyI, 5, .inl u0.2.2.2.2.1)), (bu, .inl (cyJ, 5, .inr (.inl u0.2.2.2.2.2))), (bh, .inl (cyI, 15, .inl hf)), (aL, .inl (cyJ, 1, .inr (.inl oF))), (aD, .inl (cyD, 1, .inr (.inr (.inr (.inl dF)))))] H := hP
    refine lv_istore (lv' := [(6, .int 1), (5, .int (nI (4 * j))), (4, .ref aD), (3, .ref aL), (2, .ref bx), (1, .ref ax), (0, .ref b)]) hx hb dL_law_179 hl (by decide) rfl (fun ls hl => ?_)
    refine lv_aload_n hx hb dL_law_181 rfl (lv_at hl 4 rfl) ?_
    refine lv_aload_n hx hb dL_law_182 rfl (lv_at hl 6 rfl) ?_
    refine lv_iload hx hb dL_law_183 (lv_at hl 1 rfl) ?_
    refine lv_iconst (v := 1) hx hb dL_law_185 (by decide) ?_
    refine lv_iadd hx hb dL_law_186 ?_
    refine zz_i (y := nI (4 * j + 1)) (nI_add (4 * j) 1) ?_
    refine va_sld hx hb hX hbl hbA hS (vp_in_nI (n := 4 * j + 1) (by omega) (by omega)) dL_law_187 ?_
    refine zz_i (y := v1) (by rw [nI_clamp (by omega), hv1]) ?_
    refine zrw_i (w1 := fun u : Int32 × Int32 × Int32 × Int32 × Int32 × Int32 => [(bx, .inr (3, [.int u.1, .int u.2.1, .int u.2.2.1, .int u.2.2.2.1, .int u.2.2.2.2.1, .int u.2.2.2.2.2, .ref bl, .ref ba, .ref bt, .ref bg, .ref be, .ref bf, .ref bw, .ref bs, .ref bm, .ref bn, .ref bb, .ref bu, .ref bh])), (ba, .inl (cyI, 32, .inl Af))]) (al := [bx, ba]) (va_runV (As := [.int v1]) (rest := []) ⟨hx, hb, hml, hown, hts⟩ (c_X6_tell l dC dI cyI cyJ k bx bl ba bt bg be bf bw bs bm bn bb bu bh thr mk wn cnt Af tn own oth htn hrow v1 (z_nd hDD.1 [6, 8] (by decide) rfl)) (cwV 1 hts gL_law_X6_tell rfl rfl rfl (by decide +kernel) ⟨Nat.le_of_ble_eq_true rfl, Nat.le_of_ble_eq_true rfl⟩) (zPc_V (ci := 3) (q0 := 6) zB_T hP hK rfl rfl [6, 8] rfl (fun _ _ _ => trivial)) rfl rfl hl.1 rfl (lv_room (Nat.le_of_ble_eq_true rfl)) dL_law_188 ⟨by show 22 + 4 * (j + 1) + 0 ≤ 601024; omega, by show 14465 + 24 * (j + 1) + 0 ≤ 7293034; omega⟩) hP hDD hS [6, 8] rfl (fun _ => rfl) (fun r7 u7 H locs h7 hP hS => ?_)
    have hP : va_P (dC, dI) vwCl [(ax, .inr (2, [.ref a0, .ref a1, .ref ae, .ref aw, .int (nI k), .int (nI tn), .int mk, .int wn, .int cnt])), (ao, .inr (1, [.long (lN own), .int lo])), (aq, .inr (1, [.long (lN oth), .int lq])), (ae, .inr (0, [.ref at_, .int (nI kk)])), (at_, .inl (cyI, 13500, .inl wf)), (aw, .inl (cyI, 15, .inl wb)), (bx, .inr (3, [.int u7.1, .int u7.2.1, .int u7.2.2.1, .int u7.2.2.2.1, .int u7.2.2.2.2.1, .int u7.2.2.2.2.2, .ref bl, .ref ba, .ref bt, .ref bg, .ref be, .ref bf, .ref bw, .ref bs, .ref bm, .ref bn, .ref bb, .ref bu, .ref bh])), (bl, .inl (cyI, 2, .inl lf)), (ba, .inl (cyI, 32, .inl Af)), (bt, .inl (cyI, 5, .inl tf)), (bg, .inl (cyI, 225, .inl gf)), (be, .inl (cyI, 225, .inl ef)), (bf, .inl (cyI, 225, .inl ff)), (bw, .inl (cyI, 160, .inl u0.1)), (bs, .inl (cyI, 5, .inl u0.2.1)), (bm, .inl (cyI, 5, .inl u0.2.2.1)), (bn, .inl (cyI, 5, .inl u0.2.2.2.1)), (bb, .inl (cyI, 5, .inl u0.2.2.2.2.1)), (bu, .inl (cyJ, 5, .inr (.inl u0.2.2.2.2.2))), (bh, .inl (cyI, 15, .inl hf)), (aL, .inl (cyJ, 1, .inr (.inl oF))), (aD, .inl (cyD, 1, .inr (.inr (.inr (.inl dF)))))] H := hP
    rcases h7 with ⟨e7, h7⟩ | ⟨e7, hz7, h7⟩ | ⟨e7, h7⟩
    · skip
      have q9 : u7.1 = 1 := congrArg (fun z : Int32 × Int32 × Int32 × Int32 × Int32 × Int32 => z.1) e7
      rw [q9] at hP
      have q9 : u7.2.1 = nI k := congrArg (fun z : Int32 × Int32 × Int32 × Int32 × Int32 × Int32 => z.2.1) e7
      rw [q9] at hP
      have q9 : u7.2.2.1 = nI tn := congrArg (fun z : Int32 × Int32 × Int32 × Int32 × Int32 × Int32 => z.2.2.1) e7
      rw [q9] at hP
      have q9 : u7.2.2.2.1 = mk := congrArg (fun z : Int32 × Int32 × Int32 × Int32 × Int32 × Int32 => z.2.2.2.1) e7
      rw [q9] at hP
      have q9 : u7.2.2.2.2.1 = wn := congrArg (fun z : Int32 × Int32 × Int32 × Int32 × Int32 × Int32 => z.2.2.2.2.1) e7
      rw [q9] at hP
      have q9 : u7.2.2.2.2.2 = cnt := congrArg (fun z : Int32 × Int32 × Int32 × Int32 × Int32 × Int32 => z.2.2.2.2.2) e7
      rw [q9] at hP
      have hP : va_P (dC, dI) vwCl [(ax, .inr (2, [.ref a0, .ref a1, .ref ae, .ref aw, .int (nI k), .int (nI tn), .int mk, .int wn, .int cnt])), (ao, .inr (1, [.long (lN own), .int lo])), (aq, .inr (1, [.long (lN oth), .int lq])), (ae, .inr (0, [.ref at_, .int (nI kk)])), (at_, .inl (cyI, 13500, .inl wf)), (aw, .inl (cyI, 15, .inl wb)), (bx, .inr (3, [.int 1, .int (nI k), .int (nI tn), .int mk, .int wn, .int cnt, .ref bl, .ref ba, .ref bt, .ref bg, .ref be, .ref bf, .ref bw, .ref bs, .ref bm, .ref bn, .ref bb, .ref bu, .ref bh])), (bl, .inl (cyI, 2, .inl lf)), (ba, .inl (cyI, 32, .inl Af)), (bt, .inl (cyI, 5, .inl tf)), (bg, .inl (cyI, 225, .inl gf)), (be, .inl (cyI, 225, .inl ef)), (bf, .inl (cyI, 225, .inl ff)), (bw, .inl (cyI, 160, .inl u0.1)), (bs, .inl (cyI, 5, .inl u0.2.1)), (bm, .inl (cyI, 5, .inl u0.2.2.1)), (bn, .inl (cyI, 5, .inl u0.2.2.2.1)), (bb, .inl (cyI, 5, .inl u0.2.2.2.2.1)), (bu, .inl (cyJ, 5, .inr (.inl u0.2.2.2.2.2))), (bh, .inl (cyI, 15, .inl hf)), (aL, .inl (cyJ, 1, .inr (.inl oF))), (aD, .inl (cyD, 1, .inr (.inr (.inr (.inl dF)))))] H := hP
      refine lv_istore (lv' := [(7, .int r7), (6, .int 1), (5, .int (nI (4 * j))), (4, .ref aD), (3, .ref aL), (2, .ref bx), (1, .ref ax), (0, .ref b)]) hx hb dL_law_191 hl (by decide) rfl (fun ls hl => ?_)
      refine lv_aload_n hx hb dL_law_193 rfl (lv_at hl 5 rfl) ?_
      refine zro_i (va_runV (As := []) (rest := []) ⟨hx, hb, hml, hown, hts⟩ (c_X6_thrown l dC dI cyI cyJ (nI k) bx bl ba bt bg be bf bw bs bm bn bb bu bh 1 (nI tn) mk wn cnt) (cwV 0 hts gL_law_X6_thrown rfl rfl rfl (by decide +kernel) ⟨Nat.le_of_ble_eq_true rfl, Nat.le_of_ble_eq_true rfl⟩) (zPc_V (ci := 3) (q0 := 6) zB_T hP hK rfl rfl [6] rfl (fun _ _ _ => trivial)) rfl rfl hl.1 rfl (lv_room (Nat.le_of_ble_eq_true rfl)) dL_law_194 ⟨by show 22 + 4 * (j + 1) + 0 ≤ 601024; omega, by show 14465 + 24 * (j + 1) + 0 ≤ 7293034; omega⟩) hP hS (fun H locs hP hS => ?_)
      refine lv_iload hx hb dL_law_197 (lv_at hl 1 rfl) ?_
      refine lv_icmp_eq (tgt := 204) hx hb dL_law_199 (by decide) (fun _ => ?_) (fun c9 => absurd c9 (by decide))
      refine lv_iload hx hb dL_law_204 (lv_at hl 1 rfl) ?_
      refine lv_if_ne (tgt := 221) hx hb dL_law_206 (by decide) (fun _ => ?_) (fun c9 => absurd c9 (by decide))
      refine lv_goto (tgt := 974) hx hb dL_law_221 (by decide) ?_
      refine K _ _ _ ⟨k, tn, own, oth, mm, kk, ao, aq, mk, wn, cnt, lo, lq, 1, wf, wb, Af, lf, hf, tf, gf, ef, ff, u0, oF, dF, ⟨hk1, hsd, hO, hQ, hkk, htb, hmk, hmm, hwn, hhas, hrow, hl1, hl2, htf, hff⟩, hP⟩ hS (lv_sub hl [2, 3, 4, 5, 6, 7] rfl)
    · skip
      exact absurd ((zin_iff (n := 4) (by decide)).mpr hz7) hw
    · skip
      obtain ⟨mj, g1, g2, g3, g4, g5⟩ := h7
      exact absurd ((zin_iff (n := 4) (by decide)).mpr ⟨mj, g1, g2⟩) hw
  · skip
    cases e8
    have hP : va_P (dC, dI) vwCl [(ax, .inr (2, [.ref a0, .ref a1, .ref ae, .ref aw, .int (nI k), .int (nI tn), .int mk, .int wn, .int cnt])), (ao, .inr (1, [.long (lN own), .int lo])), (aq, .inr (1, [.long (lN oth), .int lq])), (ae, .inr (0, [.ref at_, .int (nI kk)])), (at_, .inl (cyI, 13500, .inl wf)), (aw, .inl (cyI, 15, .inl wb)), (bx, .inr (3, [.int thr, .int (nI k), .int (nI tn), .int mk, .int wn, .int cnt, .ref bl, .ref ba, .ref bt, .ref bg, .ref be, .ref bf, .ref bw, .ref bs, .ref bm, .ref bn, .ref bb, .ref bu, .ref bh])), (bl, .inl (cyI, 2, .inl lf)), (ba, .inl (cyI, 32, .inl Af)), (bt, .inl (cyI, 5, .inl tf)), (bg, .inl (cyI, 225, .inl gf)), (be, .inl (cyI, 225, .inl ef)), (bf, .inl (cyI, 225, .inl ff)), (bw, .inl (cyI, 160, .inl u0.1)), (bs, .inl (cyI, 5, .inl u0.2.1)), (bm, .inl (cyI, 5, .inl u0.2.2.1)), (bn, .inl (cyI, 5, .inl u0.2.2.2.1)), (bb, .inl (cyI, 5, .inl u0.2.2.2.2.1)), (bu, .inl (cyJ, 5, .inr (.inl u0.2.2.2.2.2))), (bh, .inl (cyI, 15, .inl hf)), (aL, .inl (cyJ, 1, .inr (.inl oF))), (aD, .inl (cyD, 1, .inr (.inr (.inr (.inl dF)))))] H := hP
    refine lv_istore (lv' := [(6, .int 2), (5, .int (nI (4 * j))), (4, .ref aD), (3, .ref aL), (2, .ref bx), (1, .ref ax), (0, .ref b)]) hx hb dL_law_179 hl (by decide) rfl (fun ls hl => ?_)
    refine lv_aload_n hx hb dL_law_181 rfl (lv_at hl 4 rfl) ?_
    refine lv_aload_n hx hb dL_law_182 rfl (lv_at hl 6 rfl) ?_
    refine lv_iload hx hb dL_law_183 (lv_at hl 1 rfl) ?_
    refine lv_iconst (v := 1) hx hb dL_law_185 (by decide) ?_
    refine lv_iadd hx hb dL_law_186 ?_
    refine zz_i (y := nI (4 * j + 1)) (nI_add (4 * j) 1) ?_
    refine va_sld hx hb hX hbl hbA hS (vp_in_nI (n := 4 * j + 1) (by omega) (by omega)) dL_law_187 ?_
    refine zz_i (y := v1) (by rw [nI_clamp (by omega), hv1]) ?_
    refine zrw_i (w1 := fun u : Int32 × Int32 × Int32 × Int32 × Int32 × Int32 => [(bx, .inr (3, [.int u.1, .int u.2.1, .int u.2.2.1, .int u.2.2.2.1, .int u.2.2.2.2.1, .int u.2.2.2.2.2, .ref bl, .ref ba, .ref bt, .ref bg, .ref be, .ref bf, .ref bw, .ref bs, .ref bm, .ref bn, .ref bb, .ref bu, .ref bh])), (ba, .inl (cyI, 32, .inl Af))]) (al := [bx, ba]) (va_runV (As := [.int v1]) (rest := []) ⟨hx, hb, hml, hown, hts⟩ (c_X6_tell l dC dI cyI cyJ k bx bl ba bt bg be bf bw bs bm bn bb bu bh thr mk wn cnt Af tn own oth htn hrow v1 (z_nd hDD.1 [6, 8] (by decide) rfl)) (cwV 1 hts gL_law_X6_tell rfl rfl rfl (by decide +kernel) ⟨Nat.le_of_ble_eq_true rfl, Nat.le_of_ble_eq_true rfl⟩) (zPc_V (ci := 3) (q0 := 6) zB_T hP hK rfl rfl [6, 8] rfl (fun _ _ _ => trivial)) rfl rfl hl.1 rfl (lv_room (Nat.le_of_ble_eq_true rfl)) dL_law_188 ⟨by show 22 + 4 * (j + 1) + 0 ≤ 601024; omega, by show 14465 + 24 * (j + 1) + 0 ≤ 7293034; omega⟩) hP hDD hS [6, 8] rfl (fun _ => rfl) (fun r7 u7 H locs h7 hP hS => ?_)
    have hP : va_P (dC, dI) vwCl [(ax, .inr (2, [.ref a0, .ref a1, .ref ae, .ref aw, .int (nI k), .int (nI tn), .int mk, .int wn, .int cnt])), (ao, .inr (1, [.long (lN own), .int lo])), (aq, .inr (1, [.long (lN oth), .int lq])), (ae, .inr (0, [.ref at_, .int (nI kk)])), (at_, .inl (cyI, 13500, .inl wf)), (aw, .inl (cyI, 15, .inl wb)), (bx, .inr (3, [.int u7.1, .int u7.2.1, .int u7.2.2.1, .int u7.2.2.2.1, .int u7.2.2.2.2.1, .int u7.2.2.2.2.2, .ref bl, .ref ba, .ref bt, .ref bg, .ref be, .ref bf, .ref bw, .ref bs, .ref bm, .ref bn, .ref bb, .ref bu, .ref bh])), (bl, .inl (cyI, 2, .inl lf)), (ba, .inl (cyI, 32, .inl Af)), (bt, .inl (cyI, 5, .inl tf)), (bg, .inl (cyI, 225, .inl gf)), (be, .inl (cyI, 225, .inl ef)), (bf, .inl (cyI, 225, .inl ff)), (bw, .inl (cyI, 160, .inl u0.1)), (bs, .inl (cyI, 5, .inl u0.2.1)), (bm, .inl (cyI, 5, .inl u0.2.2.1)), (bn, .inl (cyI, 5, .inl u0.2.2.2.1)), (bb, .inl (cyI, 5, .inl u0.2.2.2.2.1)), (bu, .inl (cyJ, 5, .inr (.inl u0.2.2.2.2.2))), (bh, .inl (cyI, 15, .inl hf)), (aL, .inl (cyJ, 1, .inr (.inl oF))), (aD, .inl (cyD, 1, .inr (.inr (.inr (.inl dF)))))] H := hP
    rcases h7 with ⟨e7, h7⟩ | ⟨e7, hz7, h7⟩ | ⟨e7, h7⟩
    · skip
      exact absurd hw.1 h7
    · skip
      have q9 : u7.1 = 2 := congrArg (fun z : Int32 × Int32 × Int32 × Int32 × Int32 × Int32 => z.1) e7
      rw [q9] at hP
      have q9 : u7.2.1 = nI k := congrArg (fun z : Int32 × Int32 × Int32 × Int32 × Int32 × Int32 => z.2.1) e7
      rw [q9] at hP
      have q9 : u7.2.2.1 = nI tn := congrArg (fun z : Int32 × Int32 × Int32 × Int32 × Int32 × Int32 => z.2.2.1) e7
      rw [q9] at hP
      have q9 : u7.2.2.2.1 = mk := congrArg (fun z : Int32 × Int32 × Int32 × Int32 × Int32 × Int32 => z.2.2.2.1) e7
      rw [q9] at hP
      have q9 : u7.2.2.2.2.1 = wn := congrArg (fun z : Int32 × Int32 × Int32 × Int32 × Int32 × Int32 => z.2.2.2.2.1) e7
      rw [q9] at hP
      have q9 : u7.2.2.2.2.2 = cnt := congrArg (fun z : Int32 × Int32 × Int32 × Int32 × Int32 × Int32 => z.2.2.2.2.2) e7
      rw [q9] at hP
      have hP : va_P (dC, dI) vwCl [(ax, .inr (2, [.ref a0, .ref a1, .ref ae, .ref aw, .int (nI k), .int (nI tn), .int mk, .int wn, .int cnt])), (ao, .inr (1, [.long (lN own), .int lo])), (aq, .inr (1, [.long (lN oth), .int lq])), (ae, .inr (0, [.ref at_, .int (nI kk)])), (at_, .inl (cyI, 13500, .inl wf)), (aw, .inl (cyI, 15, .inl wb)), (bx, .inr (3, [.int 2, .int (nI k), .int (nI tn), .int mk, .int wn, .int cnt, .ref bl, .ref ba, .ref bt, .ref bg, .ref be, .ref bf, .ref bw, .ref bs, .ref bm, .ref bn, .ref bb, .ref bu, .ref bh])), (bl, .inl (cyI, 2, .inl lf)), (ba, .inl (cyI, 32, .inl Af)), (bt, .inl (cyI, 5, .inl tf)), (bg, .inl (cyI, 225, .inl gf)), (be, .inl (cyI, 225, .inl ef)), (bf, .inl (cyI, 225, .inl ff)), (bw, .inl (cyI, 160, .inl u0.1)), (bs, .inl (cyI, 5, .inl u0.2.1)), (bm, .inl (cyI, 5, .inl u0.2.2.1)), (bn, .inl (cyI, 5, .inl u0.2.2.2.1)), (bb, .inl (cyI, 5, .inl u0.2.2.2.2.1)), (bu, .inl (cyJ, 5, .inr (.inl u0.2.2.2.2.2))), (bh, .inl (cyI, 15, .inl hf)), (aL, .inl (cyJ, 1, .inr (.inl oF))), (aD, .inl (cyD, 1, .inr (.inr (.inr (.inl dF)))))] H := hP
      refine lv_istore (lv' := [(7, .int r7), (6, .int 2), (5, .int (nI (4 * j))), (4, .ref aD), (3, .ref aL), (2, .ref bx), (1, .ref ax), (0, .ref b)]) hx hb dL_law_191 hl (by decide) rfl (fun ls hl => ?_)
      refine lv_aload_n hx hb dL_law_193 rfl (lv_at hl 5 rfl) ?_
      refine zro_i (va_runV (As := []) (rest := []) ⟨hx, hb, hml, hown, hts⟩ (c_X6_thrown l dC dI cyI cyJ (nI k) bx bl ba bt bg be bf bw bs bm bn bb bu bh 2 (nI tn) mk wn cnt) (cwV 0 hts gL_law_X6_thrown rfl rfl rfl (by decide +kernel) ⟨Nat.le_of_ble_eq_true rfl, Nat.le_of_ble_eq_true rfl⟩) (zPc_V (ci := 3) (q0 := 6) zB_T hP hK rfl rfl [6] rfl (fun _ _ _ => trivial)) rfl rfl hl.1 rfl (lv_room (Nat.le_of_ble_eq_true rfl)) dL_law_194 ⟨by show 22 + 4 * (j + 1) + 0 ≤ 601024; omega, by show 14465 + 24 * (j + 1) + 0 ≤ 7293034; omega⟩) hP hS (fun H locs hP hS => ?_)
      refine lv_iload hx hb dL_law_197 (lv_at hl 1 rfl) ?_
      refine lv_icmp_eq (tgt := 204) hx hb dL_law_199 (by decide) (fun _ => ?_) (fun c9 => absurd c9 (by decide))
      refine lv_iload hx hb dL_law_204 (lv_at hl 1 rfl) ?_
      refine lv_if_ne (tgt := 221) hx hb dL_law_206 (by decide) (fun _ => ?_) (fun c9 => absurd c9 (by decide))
      refine lv_goto (tgt := 974) hx hb dL_law_221 (by decide) ?_
      refine K _ _ _ ⟨k, tn, own, oth, mm, kk, ao, aq, mk, wn, cnt, lo, lq, 2, wf, wb, Af, lf, hf, tf, gf, ef, ff, u0, oF, dF, ⟨hk1, hsd, hO, hQ, hkk, htb, hmk, hmm, hwn, hhas, hrow, hl1, hl2, htf, hff⟩, hP⟩ hS (lv_sub hl [2, 3, 4, 5, 6, 7] rfl)
    · skip
      obtain ⟨mj, g1, g2, g3, g4, g5⟩ := h7
      exact absurd ⟨g3, g4⟩ hw.2

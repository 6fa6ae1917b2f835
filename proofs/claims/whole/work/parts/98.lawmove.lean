/-! the law: move -/
theorem zlq (lq : Int32) (b : Bool) : lq + bI b = (if b = true then lq + 1 else lq) := by cases b <;> simp [bI]
set_option maxHeartbeats 4000000 in
set_option maxRecDepth 100000 in
theorem law_move {p : Program} {l : Launch} {e : Env} {s : State} {m : MethodId} {args : Array Value} {below : List Frame} {meth : Method} {c : Code} {Q : State → Prop} {dC : Nat → ClassId} {dI : Nat → Nat → Nat} {cyI cyJ cyD : ClassId} {b L tb ax a0 a1 ae at_ aw bx bl ba bt bg be bf bw bs bm bn bb bu bh aL aD : Nat} {xs : Nat → Int32} (E0 : zLE p l s m args c dC dI cyI cyJ cyD b L tb ax a0 a1 ae at_ aw bx bl ba bt bg be bf bw bs bm bn bb bu bh aL aD xs) (j : Nat) (hj : 4 * j + 4 ≤ L) {H : Heap} {locs : List Loc} (hI : zInv dC dI cyI cyJ cyD ax a0 a1 ae at_ aw bx bl ba bt bg be bf bw bs bm bn bb bu bh aL aD H) (hS : va_S (fun q : Nat => s.heap.size ≤ q) s.heap H locs) {ls : Array Slot} (hl : lv_has ls 9 [(5, .int (nI (4 * j))), (4, .ref aD), (3, .ref aL), (2, .ref bx), (1, .ref ax), (0, .ref b)])
    (K : ∀ (H : Heap) (locs : List Loc) (ls : Array Slot), zInv dC dI cyI cyJ cyD ax a0 a1 ae at_ aw bx bl ba bt bg be bf bw bs bm bn bb bu bh aL aD H → va_S (fun q : Nat => s.heap.size ≤ q) s.heap H locs → lv_has ls 9 [(5, .int (nI (4 * j))), (4, .ref aD), (3, .ref aL), (2, .ref bx), (1, .ref ax), (0, .ref b)] → W p l e room_1 s m args below meth c H locs (22 + 4 * (j + 1)) (14465 + 24 * (j + 1)) Q (F0 m 974 ls [])) : W p l e room_1 s m args below meth c H locs (22 + 4 * j) (14465 + 24 * j) Q (F0 m 224 ls []) := by
  obtain ⟨hx, hb, hml, hown, hts, hX, hbl, hLL, hl0, hK3, hH, hAl⟩ := E0
  have hK := hK3.sub (tys' := [(cyI, .int), (cyJ, .long)]) [0, 1] rfl
  have hbA : ¬ (fun q : Nat => s.heap.size ≤ q) b := Nat.not_le.mpr hbl
  obtain ⟨k, tn, own, oth, mm, kk, ao, aq, mk, wn, cnt, lo, lq, thr, wf, wb, Af, lf, hf, tf, gf, ef, ff, u0, oF, dF, ⟨hk1, hsd, hO, hQ, hkk, htb, hmk, hmm, hwn, hhas, hrow, hl1, hl2, htf, hff⟩, hP⟩ := hI
  have hDD := zD_side hsd hAl
  have htn := zSd_le hsd
  obtain ⟨v1, hv1⟩ : ∃ v, v = xs (4 * j + 1) := ⟨_, rfl⟩
  refine lv_aload_n hx hb dL_law_224 rfl (lv_at hl 4 rfl) ?_
  refine lv_aload_n hx hb dL_law_225 rfl (lv_at hl 5 rfl) ?_
  refine lv_iload hx hb dL_law_226 (lv_at hl 0 rfl) ?_
  refine lv_iconst (v := 1) hx hb dL_law_228 (by decide) ?_
  refine lv_iadd hx hb dL_law_229 ?_
  refine zz_i (y := nI (4 * j + 1)) (nI_add (4 * j) 1) ?_
  refine va_sld hx hb hX hbl hbA hS (vp_in_nI (n := 4 * j + 1) (by omega) (by omega)) dL_law_230 ?_
  refine zz_i (y := v1) (by rw [nI_clamp (by omega), hv1]) ?_
  refine lv_aload_n hx hb dL_law_231 rfl (lv_at hl 2 rfl) ?_
  refine zlw_i (vx_runSX (As := [.ref ax, .int v1, .ref aL]) (rest := []) ⟨hx, hb, hml, hown, hts⟩ (c_L_move l hl0 dC dI cyI cyJ tb ax a0 a1 ae aw ao aq mk wn cnt lo lq k tn own oth mm hsd hO hQ hmk hmm v1 aL oF (z_nd hDD.1 [0, 1, 2, 20] (by decide) rfl)) (vx_cwSW 3 hts gL_law_L_move rfl rfl rfl (by decide +kernel) ⟨Nat.le_of_ble_eq_true rfl, Nat.le_of_ble_eq_true rfl⟩) (zPc_S zB_H hP hK [0, 1, 2, 20] rfl (zH_at hH hS (fun q hq => hDD.2 q (zA_pl [0, 1, 2, 20] rfl q hq)))) rfl rfl hl.1 rfl (lv_room (Nat.le_of_ble_eq_true rfl)) dL_law_232 ⟨by show 22 + 4 * j + 2 ≤ 601024; omega, by show 14465 + 24 * j + 12 ≤ 7293034; omega⟩) hP hDD hS [0, 1, 2, 20] rfl (fun u => by rcases u with ⟨_ | _, _⟩ <;> rfl) (fun r9 u9 H locs hw hP hS => ?_)
  refine W.widen (k := 22 + 4 * (j + 1)) (n := 14465 + 24 * (j + 1)) (by omega) (by omega) ?_
  obtain ⟨u8, oF⟩ := u9
  rcases hw with ⟨x8, r8, e8, rfl, hw, hout⟩ | ⟨e8, ⟨rfl, hw⟩ | ⟨rfl, hw⟩⟩
  · skip
    cases e8
    obtain ⟨fr, t8, w8, o8, l8⟩ := x8
    obtain ⟨h1, h2, h3, h5, h6, h70, h8, h9⟩ := hw
    have h1 : fr ≤ 14 := h1
    have h2 : v1 = nI fr := h2
    have h3 : zcm own oth fr mm = true := h3
    have h5 : r8 = nI (fr + mm) := h5
    have h6 : t8 = (if zros (fr + mm) = true then nI tn else nI (1 - tn)) := h6
    have h70 : w8 = (if zhome (zsh own fr (fr + mm)) = true then nI tn else wn) := h70
    have h8 : o8 = (if ztk oth (fr + mm) = true then zsh oth (fr + mm) 0 else oth) := h8
    have h9 : l8 = (if ztk oth (fr + mm) = true then lq + 1 else lq) := h9
    have hP : va_P (dC, dI) vwCl [(ax, .inr (2, [.ref a0, .ref a1, .ref ae, .ref aw, .int (nI k), .int t8, .int (-1), .int w8, .int cnt])), (ao, .inr (1, [.long (lN (zsh own fr (fr + mm))), .int lo])), (aq, .inr (1, [.long (lN o8), .int l8])), (ae, .inr (0, [.ref at_, .int (nI kk)])), (at_, .inl (cyI, 13500, .inl wf)), (aw, .inl (cyI, 15, .inl wb)), (bx, .inr (3, [.int thr, .int (nI k), .int (nI tn), .int mk, .int wn, .int cnt, .ref bl, .ref ba, .ref bt, .ref bg, .ref be, .ref bf, .ref bw, .ref bs, .ref bm, .ref bn, .ref bb, .ref bu, .ref bh])), (bl, .inl (cyI, 2, .inl lf)), (ba, .inl (cyI, 32, .inl Af)), (bt, .inl (cyI, 5, .inl tf)), (bg, .inl (cyI, 225, .inl gf)), (be, .inl (cyI, 225, .inl ef)), (bf, .inl (cyI, 225, .inl ff)), (bw, .inl (cyI, 160, .inl u0.1)), (bs, .inl (cyI, 5, .inl u0.2.1)), (bm, .inl (cyI, 5, .inl u0.2.2.1)), (bn, .inl (cyI, 5, .inl u0.2.2.2.1)), (bb, .inl (cyI, 5, .inl u0.2.2.2.2.1)), (bu, .inl (cyJ, 5, .inr (.inl u0.2.2.2.2.2))), (bh, .inl (cyI, 15, .inl hf)), (aL, .inl (cyJ, 1, .inr (.inl oF))), (aD, .inl (cyD, 1, .inr (.inr (.inr (.inl dF)))))] H := hP
    refine lv_istore (lv' := [(6, .int 0), (5, .int (nI (4 * j))), (4, .ref aD), (3, .ref aL), (2, .ref bx), (1, .ref ax), (0, .ref b)]) hx hb dL_law_235 hl (by decide) rfl (fun ls hl => ?_)
    refine lv_aload_n hx hb dL_law_237 rfl (lv_at hl 4 rfl) ?_
    refine lv_aload_n hx hb dL_law_238 rfl (lv_at hl 6 rfl) ?_
    refine lv_iload hx hb dL_law_239 (lv_at hl 1 rfl) ?_
    refine lv_iconst (v := 1) hx hb dL_law_241 (by decide) ?_
    refine lv_iadd hx hb dL_law_242 ?_
    refine zz_i (y := nI (4 * j + 1)) (nI_add (4 * j) 1) ?_
    refine va_sld hx hb hX hbl hbA hS (vp_in_nI (n := 4 * j + 1) (by omega) (by omega)) dL_law_243 ?_
    refine zz_i (y := v1) (by rw [nI_clamp (by omega), hv1]) ?_
    refine zrw_i (w1 := fun u : (Int32 × Int32 × Int32 × Int32 × Int32 × Int32) × (Nat → Int32) × (Nat → Int32) => [(bx, .inr (3, [.int u.1.1, .int u.1.2.1, .int u.1.2.2.1, .int u.1.2.2.2.1, .int u.1.2.2.2.2.1, .int u.1.2.2.2.2.2, .ref bl, .ref ba, .ref bt, .ref bg, .ref be, .ref bf, .ref bw, .ref bs, .ref bm, .ref bn, .ref bb, .ref bu, .ref bh])), (ba, .inl (cyI, 32, .inl u.2.1)), (bl, .inl (cyI, 2, .inl u.2.2))]) (al := [bx, ba, bl]) (va_runV (As := [.int v1]) (rest := []) ⟨hx, hb, hml, hown, hts⟩ (c_X6_move l dC dI cyI cyJ k bx bl ba bt bg be bf bw bs bm bn bb bu bh thr mk wn cnt Af lf tn own oth mm htn hO hQ hrow hmk hmm v1 (z_nd hDD.1 [6, 8, 7] (by decide) rfl)) (cwV 1 hts gL_law_X6_move rfl rfl rfl (by decide +kernel) ⟨Nat.le_of_ble_eq_true rfl, Nat.le_of_ble_eq_true rfl⟩) (zPc_V (ci := 3) (q0 := 6) zB_T hP hK rfl rfl [6, 8, 7] rfl (fun _ _ _ => trivial)) rfl rfl hl.1 rfl (lv_room (Nat.le_of_ble_eq_true rfl)) dL_law_244 ⟨by show 22 + 4 * (j + 1) + 0 ≤ 601024; omega, by show 14465 + 24 * (j + 1) + 0 ≤ 7293034; omega⟩) hP hDD hS [6, 8, 7] rfl (fun _ => rfl) (fun r7 u7 H locs h7 hP hS => ?_)
    have hP : va_P (dC, dI) vwCl [(ax, .inr (2, [.ref a0, .ref a1, .ref ae, .ref aw, .int (nI k), .int t8, .int (-1), .int w8, .int cnt])), (ao, .inr (1, [.long (lN (zsh own fr (fr + mm))), .int lo])), (aq, .inr (1, [.long (lN o8), .int l8])), (ae, .inr (0, [.ref at_, .int (nI kk)])), (at_, .inl (cyI, 13500, .inl wf)), (aw, .inl (cyI, 15, .inl wb)), (bx, .inr (3, [.int u7.1.1, .int u7.1.2.1, .int u7.1.2.2.1, .int u7.1.2.2.2.1, .int u7.1.2.2.2.2.1, .int u7.1.2.2.2.2.2, .ref bl, .ref ba, .ref bt, .ref bg, .ref be, .ref bf, .ref bw, .ref bs, .ref bm, .ref bn, .ref bb, .ref bu, .ref bh])), (bl, .inl (cyI, 2, .inl u7.2.2)), (ba, .inl (cyI, 32, .inl u7.2.1)), (bt, .inl (cyI, 5, .inl tf)), (bg, .inl (cyI, 225, .inl gf)), (be, .inl (cyI, 225, .inl ef)), (bf, .inl (cyI, 225, .inl ff)), (bw, .inl (cyI, 160, .inl u0.1)), (bs, .inl (cyI, 5, .inl u0.2.1)), (bm, .inl (cyI, 5, .inl u0.2.2.1)), (bn, .inl (cyI, 5, .inl u0.2.2.2.1)), (bb, .inl (cyI, 5, .inl u0.2.2.2.2.1)), (bu, .inl (cyJ, 5, .inr (.inl u0.2.2.2.2.2))), (bh, .inl (cyI, 15, .inl hf)), (aL, .inl (cyJ, 1, .inr (.inl oF))), (aD, .inl (cyD, 1, .inr (.inr (.inr (.inl dF)))))] H := hP
    rcases h7 with ⟨e7, e71, e72, h7⟩ | ⟨e7, e71, e72, fr2, g1, g2, g3⟩ | ⟨e7, fr2, g1, g2, g3, g5, g6, g60, grow, gl1, gl2⟩
    · skip
      exact absurd ((zin_iff (n := 14) (by decide)).mpr ⟨fr, h1, h2⟩) h7
    · skip
      have e5 : fr = fr2 := (nI_eq (by omega) (by omega)).mp (h2.symm.trans g2)
      rw [e5] at h3
      exact absurd (h3.symm.trans g3) (by decide)
    · skip
      obtain rfl : fr = fr2 := (nI_eq (by omega) (by omega)).mp (h2.symm.trans g2)
      have hout8 : oF 0 = (r7 : Int32).toInt64 := by rw [show oF 0 = _ from hout, h5, g5]
      have q9 : u7.1.1 = 0 := congrArg (fun z : Int32 × Int32 × Int32 × Int32 × Int32 × Int32 => z.1) e7
      rw [q9] at hP
      have q9 : u7.1.2.1 = nI k := congrArg (fun z : Int32 × Int32 × Int32 × Int32 × Int32 × Int32 => z.2.1) e7
      rw [q9] at hP
      have q9 : u7.1.2.2.2.1 = -1 := congrArg (fun z : Int32 × Int32 × Int32 × Int32 × Int32 × Int32 => z.2.2.2.1) e7
      rw [q9] at hP
      have q9 : u7.1.2.2.2.2.2 = cnt := congrArg (fun z : Int32 × Int32 × Int32 × Int32 × Int32 × Int32 => z.2.2.2.2.2) e7
      rw [q9] at hP
      have hP : va_P (dC, dI) vwCl [(ax, .inr (2, [.ref a0, .ref a1, .ref ae, .ref aw, .int (nI k), .int t8, .int (-1), .int w8, .int cnt])), (ao, .inr (1, [.long (lN (zsh own fr (fr + mm))), .int lo])), (aq, .inr (1, [.long (lN o8), .int l8])), (ae, .inr (0, [.ref at_, .int (nI kk)])), (at_, .inl (cyI, 13500, .inl wf)), (aw, .inl (cyI, 15, .inl wb)), (bx, .inr (3, [.int 0, .int (nI k), .int u7.1.2.2.1, .int (-1), .int u7.1.2.2.2.2.1, .int cnt, .ref bl, .ref ba, .ref bt, .ref bg, .ref be, .ref bf, .ref bw, .ref bs, .ref bm, .ref bn, .ref bb, .ref bu, .ref bh])), (bl, .inl (cyI, 2, .inl u7.2.2)), (ba, .inl (cyI, 32, .inl u7.2.1)), (bt, .inl (cyI, 5, .inl tf)), (bg, .inl (cyI, 225, .inl gf)), (be, .inl (cyI, 225, .inl ef)), (bf, .inl (cyI, 225, .inl ff)), (bw, .inl (cyI, 160, .inl u0.1)), (bs, .inl (cyI, 5, .inl u0.2.1)), (bm, .inl (cyI, 5, .inl u0.2.2.1)), (bn, .inl (cyI, 5, .inl u0.2.2.2.1)), (bb, .inl (cyI, 5, .inl u0.2.2.2.2.1)), (bu, .inl (cyJ, 5, .inr (.inl u0.2.2.2.2.2))), (bh, .inl (cyI, 15, .inl hf)), (aL, .inl (cyJ, 1, .inr (.inl oF))), (aD, .inl (cyD, 1, .inr (.inr (.inr (.inl dF)))))] H := hP
      refine lv_istore (lv' := [(7, .int r7), (6, .int 0), (5, .int (nI (4 * j))), (4, .ref aD), (3, .ref aL), (2, .ref bx), (1, .ref ax), (0, .ref b)]) hx hb dL_law_247 hl (by decide) rfl (fun ls hl => ?_)
      refine lv_aload_n hx hb dL_law_249 rfl (lv_at hl 5 rfl) ?_
      refine zro_i (va_runV (As := []) (rest := []) ⟨hx, hb, hml, hown, hts⟩ (c_X6_thrown l dC dI cyI cyJ (nI k) bx bl ba bt bg be bf bw bs bm bn bb bu bh 0 u7.1.2.2.1 (-1) u7.1.2.2.2.2.1 cnt) (cwV 0 hts gL_law_X6_thrown rfl rfl rfl (by decide +kernel) ⟨Nat.le_of_ble_eq_true rfl, Nat.le_of_ble_eq_true rfl⟩) (zPc_V (ci := 3) (q0 := 6) zB_T hP hK rfl rfl [6] rfl (fun _ _ _ => trivial)) rfl rfl hl.1 rfl (lv_room (Nat.le_of_ble_eq_true rfl)) dL_law_250 ⟨by show 22 + 4 * (j + 1) + 0 ≤ 601024; omega, by show 14465 + 24 * (j + 1) + 0 ≤ 7293034; omega⟩) hP hS (fun H locs hP hS => ?_)
      refine lv_iload hx hb dL_law_253 (lv_at hl 1 rfl) ?_
      refine lv_icmp_eq (tgt := 260) hx hb dL_law_255 (by decide) (fun _ => ?_) (fun c9 => absurd c9 (by decide))
      refine lv_iload hx hb dL_law_260 (lv_at hl 1 rfl) ?_
      refine lv_if_ne (tgt := 277) hx hb dL_law_262 (by decide) (fun c9 => absurd c9 (by decide)) (fun _ => ?_)
      refine lv_aload_n hx hb dL_law_265 rfl (lv_at hl 4 rfl) ?_
      refine lv_iconst (v := 0) hx hb dL_law_266 (by decide) ?_
      refine zi_lald hx hb hK hP 20 1 rfl rfl (j := 0) rfl (by omega) (by decide) dL_law_267 ?_
      refine zz_l (y := (r7 : Int32).toInt64) hout8 ?_
      refine lv_iload hx hb dL_law_268 (lv_at hl 0 rfl) ?_
      refine lv_i2l (v := (r7 : Int32).toInt64) hx hb dL_law_270 rfl ?_
      refine W.lcmp hx hb dL_law_271 ?_
      refine zz_i (y := 0) (lg_same _) ?_
      refine lv_if_eq (tgt := 277) hx hb dL_law_272 (by decide) (fun _ => ?_) (fun c9 => absurd c9 (by decide))
      refine lv_goto (tgt := 974) hx hb dL_law_277 (by decide) ?_
      obtain ⟨hm0, hd0, hto⟩ := zcm_spec h3
      have hO2 : zok k (zsh own fr (fr + mm)) := zok_sh hO hd0 (by omega) (by omega) (by omega)
      have hQ2 : zok k (if ztk oth (fr + mm) = true then zsh oth (fr + mm) 0 else oth) := zok_tk hQ hto
      have hwn1 : wn = -1 := hwn.elim (fun e5 => absurd (zmk_0 hmk hmm e5) (by omega)) id
      have h71 : w8 = (if zhome (zsh own fr (fr + mm)) = true then nI tn else -1) := by rw [h70, hwn1]
      rw [h6, h71, h8, h9, g6, g60] at hP
      have hl7 : u7.2.2 (1 - tn) = (if ztk oth (fr + mm) = true then lq + 1 else lq) := by rw [gl1, hl2]; exact zlq _ _
      by_cases hz : zros (fr + mm) = true
      · skip
        rw [if_pos hz] at hP
        refine K _ _ _ ⟨k, tn, (zsh own fr (fr + mm)), (if ztk oth (fr + mm) = true then zsh oth (fr + mm) 0 else oth), 0, kk, ao, aq, (-1), (if zhome (zsh own fr (fr + mm)) = true then nI tn else -1), cnt, lo, (if ztk oth (fr + mm) = true then lq + 1 else lq), 0, wf, wb, u7.2.1, u7.2.2, hf, tf, gf, ef, ff, u0, oF, dF, ⟨hk1, hsd, hO2, hQ2, hkk, htb, (Or.inr ⟨rfl, rfl⟩), (by decide), (Or.inl rfl), (fun h => absurd rfl h), grow, (gl2.trans hl1), hl7, htf, hff⟩, hP⟩ hS (lv_sub hl [2, 3, 4, 5, 6, 7] rfl)
      · skip
        rw [if_neg hz] at hP
        refine K _ _ _ ⟨k, (1 - tn), (if ztk oth (fr + mm) = true then zsh oth (fr + mm) 0 else oth), (zsh own fr (fr + mm)), 0, kk, aq, ao, (-1), (if zhome (zsh own fr (fr + mm)) = true then nI tn else -1), cnt, (if ztk oth (fr + mm) = true then lq + 1 else lq), lo, 0, wf, wb, u7.2.1, u7.2.2, hf, tf, gf, ef, ff, u0, oF, dF, ⟨hk1, (zSd_sw hsd), hQ2, hO2, hkk, htb, (Or.inr ⟨rfl, rfl⟩), (by decide), (Or.inl rfl), (fun h => absurd rfl h), (grow.sw htn), hl7, (by rw [show 1 - (1 - tn) = tn by omega]; exact gl2.trans hl1), htf, hff⟩, (hP.sub [0, 2, 1, 3, 4, 5, 6, 7, 8, 9, 10, 11, 12, 13, 14, 15, 16, 17, 18, 19, 20, 21] rfl)⟩ hS (lv_sub hl [2, 3, 4, 5, 6, 7] rfl)
  · skip
    cases e8
    have hP : va_P (dC, dI) vwCl [(ax, .inr (2, [.ref a0, .ref a1, .ref ae, .ref aw, .int (nI k), .int (nI tn), .int mk, .int wn, .int cnt])), (ao, .inr (1, [.long (lN own), .int lo])), (aq, .inr (1, [.long (lN oth), .int lq])), (ae, .inr (0, [.ref at_, .int (nI kk)])), (at_, .inl (cyI, 13500, .inl wf)), (aw, .inl (cyI, 15, .inl wb)), (bx, .inr (3, [.int thr, .int (nI k), .int (nI tn), .int mk, .int wn, .int cnt, .ref bl, .ref ba, .ref bt, .ref bg, .ref be, .ref bf, .ref bw, .ref bs, .ref bm, .ref bn, .ref bb, .ref bu, .ref bh])), (bl, .inl (cyI, 2, .inl lf)), (ba, .inl (cyI, 32, .inl Af)), (bt, .inl (cyI, 5, .inl tf)), (bg, .inl (cyI, 225, .inl gf)), (be, .inl (cyI, 225, .inl ef)), (bf, .inl (cyI, 225, .inl ff)), (bw, .inl (cyI, 160, .inl u0.1)), (bs, .inl (cyI, 5, .inl u0.2.1)), (bm, .inl (cyI, 5, .inl u0.2.2.1)), (bn, .inl (cyI, 5, .inl u0.2.2.2.1)), (bb, .inl (cyI, 5, .inl u0.2.2.2.2.1)), (bu, .inl (cyJ, 5, .inr (.inl u0.2.2.2.2.2))), (bh, .inl (cyI, 15, .inl hf)), (aL, .inl (cyJ, 1, .inr (.inl oF))), (aD, .inl (cyD, 1, .inr (.inr (.inr (.inl dF)))))] H := hP
    refine lv_istore (lv' := [(6, .int 1), (5, .int (nI (4 * j))), (4, .ref aD), (3, .ref aL), (2, .ref bx), (1, .ref ax), (0, .ref b)]) hx hb dL_law_235 hl (by decide) rfl (fun ls hl => ?_)
    refine lv_aload_n hx hb dL_law_237 rfl (lv_at hl 4 rfl) ?_
    refine lv_aload_n hx hb dL_law_238 rfl (lv_at hl 6 rfl) ?_
    refine lv_iload hx hb dL_law_239 (lv_at hl 1 rfl) ?_
    refine lv_iconst (v := 1) hx hb dL_law_241 (by decide) ?_
    refine lv_iadd hx hb dL_law_242 ?_
    refine zz_i (y := nI (4 * j + 1)) (nI_add (4 * j) 1) ?_
    refine va_sld hx hb hX hbl hbA hS (vp_in_nI (n := 4 * j + 1) (by omega) (by omega)) dL_law_243 ?_
    refine zz_i (y := v1) (by rw [nI_clamp (by omega), hv1]) ?_
    refine zrw_i (w1 := fun u : (Int32 × Int32 × Int32 × Int32 × Int32 × Int32) × (Nat → Int32) × (Nat → Int32) => [(bx, .inr (3, [.int u.1.1, .int u.1.2.1, .int u.1.2.2.1, .int u.1.2.2.2.1, .int u.1.2.2.2.2.1, .int u.1.2.2.2.2.2, .ref bl, .ref ba, .ref bt, .ref bg, .ref be, .ref bf, .ref bw, .ref bs, .ref bm, .ref bn, .ref bb, .ref bu, .ref bh])), (ba, .inl (cyI, 32, .inl u.2.1)), (bl, .inl (cyI, 2, .inl u.2.2))]) (al := [bx, ba, bl]) (va_runV (As := [.int v1]) (rest := []) ⟨hx, hb, hml, hown, hts⟩ (c_X6_move l dC dI cyI cyJ k bx bl ba bt bg be bf bw bs bm bn bb bu bh thr mk wn cnt Af lf tn own oth mm htn hO hQ hrow hmk hmm v1 (z_nd hDD.1 [6, 8, 7] (by decide) rfl)) (cwV 1 hts gL_law_X6_move rfl rfl rfl (by decide +kernel) ⟨Nat.le_of_ble_eq_true rfl, Nat.le_of_ble_eq_true rfl⟩) (zPc_V (ci := 3) (q0 := 6) zB_T hP hK rfl rfl [6, 8, 7] rfl (fun _ _ _ => trivial)) rfl rfl hl.1 rfl (lv_room (Nat.le_of_ble_eq_true rfl)) dL_law_244 ⟨by show 22 + 4 * (j + 1) + 0 ≤ 601024; omega, by show 14465 + 24 * (j + 1) + 0 ≤ 7293034; omega⟩) hP hDD hS [6, 8, 7] rfl (fun _ => rfl) (fun r7 u7 H locs h7 hP hS => ?_)
    have hP : va_P (dC, dI) vwCl [(ax, .inr (2, [.ref a0, .ref a1, .ref ae, .ref aw, .int (nI k), .int (nI tn), .int mk, .int wn, .int cnt])), (ao, .inr (1, [.long (lN own), .int lo])), (aq, .inr (1, [.long (lN oth), .int lq])), (ae, .inr (0, [.ref at_, .int (nI kk)])), (at_, .inl (cyI, 13500, .inl wf)), (aw, .inl (cyI, 15, .inl wb)), (bx, .inr (3, [.int u7.1.1, .int u7.1.2.1, .int u7.1.2.2.1, .int u7.1.2.2.2.1, .int u7.1.2.2.2.2.1, .int u7.1.2.2.2.2.2, .ref bl, .ref ba, .ref bt, .ref bg, .ref be, .ref bf, .ref bw, .ref bs, .ref bm, .ref bn, .ref bb, .ref bu, .ref bh])), (bl, .inl (cyI, 2, .inl u7.2.2)), (ba, .inl (cyI, 32, .inl u7.2.1)), (bt, .inl (cyI, 5, .inl tf)), (bg, .inl (cyI, 225, .inl gf)), (be, .inl (cyI, 225, .inl ef)), (bf, .inl (cyI, 225, .inl ff)), (bw, .inl (cyI, 160, .inl u0.1)), (bs, .inl (cyI, 5, .inl u0.2.1)), (bm, .inl (cyI, 5, .inl u0.2.2.1)), (bn, .inl (cyI, 5, .inl u0.2.2.2.1)), (bb, .inl (cyI, 5, .inl u0.2.2.2.2.1)), (bu, .inl (cyJ, 5, .inr (.inl u0.2.2.2.2.2))), (bh, .inl (cyI, 15, .inl hf)), (aL, .inl (cyJ, 1, .inr (.inl oF))), (aD, .inl (cyD, 1, .inr (.inr (.inr (.inl dF)))))] H := hP
    rcases h7 with ⟨e7, e71, e72, h7⟩ | ⟨e7, e71, e72, fr2, g1, g2, g3⟩ | ⟨e7, fr2, g1, g2, g3, g5, g6, g60, grow, gl1, gl2⟩
    · skip
      have q9 : u7.1.1 = 1 := congrArg (fun z : Int32 × Int32 × Int32 × Int32 × Int32 × Int32 => z.1) e7
      rw [q9] at hP
      have q9 : u7.1.2.1 = nI k := congrArg (fun z : Int32 × Int32 × Int32 × Int32 × Int32 × Int32 => z.2.1) e7
      rw [q9] at hP
      have q9 : u7.1.2.2.1 = nI tn := congrArg (fun z : Int32 × Int32 × Int32 × Int32 × Int32 × Int32 => z.2.2.1) e7
      rw [q9] at hP
      have q9 : u7.1.2.2.2.1 = mk := congrArg (fun z : Int32 × Int32 × Int32 × Int32 × Int32 × Int32 => z.2.2.2.1) e7
      rw [q9] at hP
      have q9 : u7.1.2.2.2.2.1 = wn := congrArg (fun z : Int32 × Int32 × Int32 × Int32 × Int32 × Int32 => z.2.2.2.2.1) e7
      rw [q9] at hP
      have q9 : u7.1.2.2.2.2.2 = cnt := congrArg (fun z : Int32 × Int32 × Int32 × Int32 × Int32 × Int32 => z.2.2.2.2.2) e7
      rw [q9] at hP
      rw [e71, e72] at hP
      have hP : va_P (dC, dI) vwCl [(ax, .inr (2, [.ref a0, .ref a1, .ref ae, .ref aw, .int (nI k), .int (nI tn), .int mk, .int wn, .int cnt])), (ao, .inr (1, [.long (lN own), .int lo])), (aq, .inr (1, [.long (lN oth), .int lq])), (ae, .inr (0, [.ref at_, .int (nI kk)])), (at_, .inl (cyI, 13500, .inl wf)), (aw, .inl (cyI, 15, .inl wb)), (bx, .inr (3, [.int 1, .int (nI k), .int (nI tn), .int mk, .int wn, .int cnt, .ref bl, .ref ba, .ref bt, .ref bg, .ref be, .ref bf, .ref bw, .ref bs, .ref bm, .ref bn, .ref bb, .ref bu, .ref bh])), (bl, .inl (cyI, 2, .inl lf)), (ba, .inl (cyI, 32, .inl Af)), (bt, .inl (cyI, 5, .inl tf)), (bg, .inl (cyI, 225, .inl gf)), (be, .inl (cyI, 225, .inl ef)), (bf, .inl (cyI, 225, .inl ff)), (bw, .inl (cyI, 160, .inl u0.1)), (bs, .inl (cyI, 5, .inl u0.2.1)), (bm, .inl (cyI, 5, .inl u0.2.2.1)), (bn, .inl (cyI, 5, .inl u0.2.2.2.1)), (bb, .inl (cyI, 5, .inl u0.2.2.2.2.1)), (bu, .inl (cyJ, 5, .inr (.inl u0.2.2.2.2.2))), (bh, .inl (cyI, 15, .inl hf)), (aL, .inl (cyJ, 1, .inr (.inl oF))), (aD, .inl (cyD, 1, .inr (.inr (.inr (.inl dF)))))] H := hP
      refine lv_istore (lv' := [(7, .int r7), (6, .int 1), (5, .int (nI (4 * j))), (4, .ref aD), (3, .ref aL), (2, .ref bx), (1, .ref ax), (0, .ref b)]) hx hb dL_law_247 hl (by decide) rfl (fun ls hl => ?_)
      refine lv_aload_n hx hb dL_law_249 rfl (lv_at hl 5 rfl) ?_
      refine zro_i (va_runV (As := []) (rest := []) ⟨hx, hb, hml, hown, hts⟩ (c_X6_thrown l dC dI cyI cyJ (nI k) bx bl ba bt bg be bf bw bs bm bn bb bu bh 1 (nI tn) mk wn cnt) (cwV 0 hts gL_law_X6_thrown rfl rfl rfl (by decide +kernel) ⟨Nat.le_of_ble_eq_true rfl, Nat.le_of_ble_eq_true rfl⟩) (zPc_V (ci := 3) (q0 := 6) zB_T hP hK rfl rfl [6] rfl (fun _ _ _ => trivial)) rfl rfl hl.1 rfl (lv_room (Nat.le_of_ble_eq_true rfl)) dL_law_250 ⟨by show 22 + 4 * (j + 1) + 0 ≤ 601024; omega, by show 14465 + 24 * (j + 1) + 0 ≤ 7293034; omega⟩) hP hS (fun H locs hP hS => ?_)
      refine lv_iload hx hb dL_law_253 (lv_at hl 1 rfl) ?_
      refine lv_icmp_eq (tgt := 260) hx hb dL_law_255 (by decide) (fun _ => ?_) (fun c9 => absurd c9 (by decide))
      refine lv_iload hx hb dL_law_260 (lv_at hl 1 rfl) ?_
      refine lv_if_ne (tgt := 277) hx hb dL_law_262 (by decide) (fun _ => ?_) (fun c9 => absurd c9 (by decide))
      refine lv_goto (tgt := 974) hx hb dL_law_277 (by decide) ?_
      refine K _ _ _ ⟨k, tn, own, oth, mm, kk, ao, aq, mk, wn, cnt, lo, lq, 1, wf, wb, Af, lf, hf, tf, gf, ef, ff, u0, oF, dF, ⟨hk1, hsd, hO, hQ, hkk, htb, hmk, hmm, hwn, hhas, hrow, hl1, hl2, htf, hff⟩, hP⟩ hS (lv_sub hl [2, 3, 4, 5, 6, 7] rfl)
    · skip
      exact absurd ((zin_iff (n := 14) (by decide)).mpr ⟨fr2, g1, g2⟩) hw
    · skip
      exact absurd ((zin_iff (n := 14) (by decide)).mpr ⟨fr2, g1, g2⟩) hw
  · skip
    cases e8
    have hP : va_P (dC, dI) vwCl [(ax, .inr (2, [.ref a0, .ref a1, .ref ae, .ref aw, .int (nI k), .int (nI tn), .int mk, .int wn, .int cnt])), (ao, .inr (1, [.long (lN own), .int lo])), (aq, .inr (1, [.long (lN oth), .int lq])), (ae, .inr (0, [.ref at_, .int (nI kk)])), (at_, .inl (cyI, 13500, .inl wf)), (aw, .inl (cyI, 15, .inl wb)), (bx, .inr (3, [.int thr, .int (nI k), .int (nI tn), .int mk, .int wn, .int cnt, .ref bl, .ref ba, .ref bt, .ref bg, .ref be, .ref bf, .ref bw, .ref bs, .ref bm, .ref bn, .ref bb, .ref bu, .ref bh])), (bl, .inl (cyI, 2, .inl lf)), (ba, .inl (cyI, 32, .inl Af)), (bt, .inl (cyI, 5, .inl tf)), (bg, .inl (cyI, 225, .inl gf)), (be, .inl (cyI, 225, .inl ef)), (bf, .inl (cyI, 225, .inl ff)), (bw, .inl (cyI, 160, .inl u0.1)), (bs, .inl (cyI, 5, .inl u0.2.1)), (bm, .inl (cyI, 5, .inl u0.2.2.1)), (bn, .inl (cyI, 5, .inl u0.2.2.2.1)), (bb, .inl (cyI, 5, .inl u0.2.2.2.2.1)), (bu, .inl (cyJ, 5, .inr (.inl u0.2.2.2.2.2))), (bh, .inl (cyI, 15, .inl hf)), (aL, .inl (cyJ, 1, .inr (.inl oF))), (aD, .inl (cyD, 1, .inr (.inr (.inr (.inl dF)))))] H := hP
    refine lv_istore (lv' := [(6, .int 2), (5, .int (nI (4 * j))), (4, .ref aD), (3, .ref aL), (2, .ref bx), (1, .ref ax), (0, .ref b)]) hx hb dL_law_235 hl (by decide) rfl (fun ls hl => ?_)
    refine lv_aload_n hx hb dL_law_237 rfl (lv_at hl 4 rfl) ?_
    refine lv_aload_n hx hb dL_law_238 rfl (lv_at hl 6 rfl) ?_
    refine lv_iload hx hb dL_law_239 (lv_at hl 1 rfl) ?_
    refine lv_iconst (v := 1) hx hb dL_law_241 (by decide) ?_
    refine lv_iadd hx hb dL_law_242 ?_
    refine zz_i (y := nI (4 * j + 1)) (nI_add (4 * j) 1) ?_
    refine va_sld hx hb hX hbl hbA hS (vp_in_nI (n := 4 * j + 1) (by omega) (by omega)) dL_law_243 ?_
    refine zz_i (y := v1) (by rw [nI_clamp (by omega), hv1]) ?_
    refine zrw_i (w1 := fun u : (Int32 × Int32 × Int32 × Int32 × Int32 × Int32) × (Nat → Int32) × (Nat → Int32) => [(bx, .inr (3, [.int u.1.1, .int u.1.2.1, .int u.1.2.2.1, .int u.1.2.2.2.1, .int u.1.2.2.2.2.1, .int u.1.2.2.2.2.2, .ref bl, .ref ba, .ref bt, .ref bg, .ref be, .ref bf, .ref bw, .ref bs, .ref bm, .ref bn, .ref bb, .ref bu, .ref bh])), (ba, .inl (cyI, 32, .inl u.2.1)), (bl, .inl (cyI, 2, .inl u.2.2))]) (al := [bx, ba, bl]) (va_runV (As := [.int v1]) (rest := []) ⟨hx, hb, hml, hown, hts⟩ (c_X6_move l dC dI cyI cyJ k bx bl ba bt bg be bf bw bs bm bn bb bu bh thr mk wn cnt Af lf tn own oth mm htn hO hQ hrow hmk hmm v1 (z_nd hDD.1 [6, 8, 7] (by decide) rfl)) (cwV 1 hts gL_law_X6_move rfl rfl rfl (by decide +kernel) ⟨Nat.le_of_ble_eq_true rfl, Nat.le_of_ble_eq_true rfl⟩) (zPc_V (ci := 3) (q0 := 6) zB_T hP hK rfl rfl [6, 8, 7] rfl (fun _ _ _ => trivial)) rfl rfl hl.1 rfl (lv_room (Nat.le_of_ble_eq_true rfl)) dL_law_244 ⟨by show 22 + 4 * (j + 1) + 0 ≤ 601024; omega, by show 14465 + 24 * (j + 1) + 0 ≤ 7293034; omega⟩) hP hDD hS [6, 8, 7] rfl (fun _ => rfl) (fun r7 u7 H locs h7 hP hS => ?_)
    have hP : va_P (dC, dI) vwCl [(ax, .inr (2, [.ref a0, .ref a1, .ref ae, .ref aw, .int (nI k), .int (nI tn), .int mk, .int wn, .int cnt])), (ao, .inr (1, [.long (lN own), .int lo])), (aq, .inr (1, [.long (lN oth), .int lq])), (ae, .inr (0, [.ref at_, .int (nI kk)])), (at_, .inl (cyI, 13500, .inl wf)), (aw, .inl (cyI, 15, .inl wb)), (bx, .inr (3, [.int u7.1.1, .int u7.1.2.1, .int u7.1.2.2.1, .int u7.1.2.2.2.1, .int u7.1.2.2.2.2.1, .int u7.1.2.2.2.2.2, .ref bl, .ref ba, .ref bt, .ref bg, .ref be, .ref bf, .ref bw, .ref bs, .ref bm, .ref bn, .ref bb, .ref bu, .ref bh])), (bl, .inl (cyI, 2, .inl u7.2.2)), (ba, .inl (cyI, 32, .inl u7.2.1)), (bt, .inl (cyI, 5, .inl tf)), (bg, .inl (cyI, 225, .inl gf)), (be, .inl (cyI, 225, .inl ef)), (bf, .inl (cyI, 225, .inl ff)), (bw, .inl (cyI, 160, .inl u0.1)), (bs, .inl (cyI, 5, .inl u0.2.1)), (bm, .inl (cyI, 5, .inl u0.2.2.1)), (bn, .inl (cyI, 5, .inl u0.2.2.2.1)), (bb, .inl (cyI, 5, .inl u0.2.2.2.2.1)), (bu, .inl (cyJ, 5, .inr (.inl u0.2.2.2.2.2))), (bh, .inl (cyI, 15, .inl hf)), (aL, .inl (cyJ, 1, .inr (.inl oF))), (aD, .inl (cyD, 1, .inr (.inr (.inr (.inl dF)))))] H := hP
    rcases h7 with ⟨e7, e71, e72, h7⟩ | ⟨e7, e71, e72, fr2, g1, g2, g3⟩ | ⟨e7, fr2, g1, g2, g3, g5, g6, g60, grow, gl1, gl2⟩
    · skip
      obtain ⟨fr, f1, f2, f3⟩ := hw
      exact absurd ((zin_iff (n := 14) (by decide)).mpr ⟨fr, f1, f2⟩) h7
    · skip
      have q9 : u7.1.1 = 2 := congrArg (fun z : Int32 × Int32 × Int32 × Int32 × Int32 × Int32 => z.1) e7
      rw [q9] at hP
      have q9 : u7.1.2.1 = nI k := congrArg (fun z : Int32 × Int32 × Int32 × Int32 × Int32 × Int32 => z.2.1) e7
      rw [q9] at hP
      have q9 : u7.1.2.2.1 = nI tn := congrArg (fun z : Int32 × Int32 × Int32 × Int32 × Int32 × Int32 => z.2.2.1) e7
      rw [q9] at hP
      have q9 : u7.1.2.2.2.1 = mk := congrArg (fun z : Int32 × Int32 × Int32 × Int32 × Int32 × Int32 => z.2.2.2.1) e7
      rw [q9] at hP
      have q9 : u7.1.2.2.2.2.1 = wn := congrArg (fun z : Int32 × Int32 × Int32 × Int32 × Int32 × Int32 => z.2.2.2.2.1) e7
      rw [q9] at hP
      have q9 : u7.1.2.2.2.2.2 = cnt := congrArg (fun z : Int32 × Int32 × Int32 × Int32 × Int32 × Int32 => z.2.2.2.2.2) e7
      rw [q9] at hP
      rw [e71, e72] at hP
      have hP : va_P (dC, dI) vwCl [(ax, .inr (2, [.ref a0, .ref a1, .ref ae, .ref aw, .int (nI k), .int (nI tn), .int mk, .int wn, .int cnt])), (ao, .inr (1, [.long (lN own), .int lo])), (aq, .inr (1, [.long (lN oth), .int lq])), (ae, .inr (0, [.ref at_, .int (nI kk)])), (at_, .inl (cyI, 13500, .inl wf)), (aw, .inl (cyI, 15, .inl wb)), (bx, .inr (3, [.int 2, .int (nI k), .int (nI tn), .int mk, .int wn, .int cnt, .ref bl, .ref ba, .ref bt, .ref bg, .ref be, .ref bf, .ref bw, .ref bs, .ref bm, .ref bn, .ref bb, .ref bu, .ref bh])), (bl, .inl (cyI, 2, .inl lf)), (ba, .inl (cyI, 32, .inl Af)), (bt, .inl (cyI, 5, .inl tf)), (bg, .inl (cyI, 225, .inl gf)), (be, .inl (cyI, 225, .inl ef)), (bf, .inl (cyI, 225, .inl ff)), (bw, .inl (cyI, 160, .inl u0.1)), (bs, .inl (cyI, 5, .inl u0.2.1)), (bm, .inl (cyI, 5, .inl u0.2.2.1)), (bn, .inl (cyI, 5, .inl u0.2.2.2.1)), (bb, .inl (cyI, 5, .inl u0.2.2.2.2.1)), (bu, .inl (cyJ, 5, .inr (.inl u0.2.2.2.2.2))), (bh, .inl (cyI, 15, .inl hf)), (aL, .inl (cyJ, 1, .inr (.inl oF))), (aD, .inl (cyD, 1, .inr (.inr (.inr (.inl dF)))))] H := hP
      refine lv_istore (lv' := [(7, .int r7), (6, .int 2), (5, .int (nI (4 * j))), (4, .ref aD), (3, .ref aL), (2, .ref bx), (1, .ref ax), (0, .ref b)]) hx hb dL_law_247 hl (by decide) rfl (fun ls hl => ?_)
      refine lv_aload_n hx hb dL_law_249 rfl (lv_at hl 5 rfl) ?_
      refine zro_i (va_runV (As := []) (rest := []) ⟨hx, hb, hml, hown, hts⟩ (c_X6_thrown l dC dI cyI cyJ (nI k) bx bl ba bt bg be bf bw bs bm bn bb bu bh 2 (nI tn) mk wn cnt) (cwV 0 hts gL_law_X6_thrown rfl rfl rfl (by decide +kernel) ⟨Nat.le_of_ble_eq_true rfl, Nat.le_of_ble_eq_true rfl⟩) (zPc_V (ci := 3) (q0 := 6) zB_T hP hK rfl rfl [6] rfl (fun _ _ _ => trivial)) rfl rfl hl.1 rfl (lv_room (Nat.le_of_ble_eq_true rfl)) dL_law_250 ⟨by show 22 + 4 * (j + 1) + 0 ≤ 601024; omega, by show 14465 + 24 * (j + 1) + 0 ≤ 7293034; omega⟩) hP hS (fun H locs hP hS => ?_)
      refine lv_iload hx hb dL_law_253 (lv_at hl 1 rfl) ?_
      refine lv_icmp_eq (tgt := 260) hx hb dL_law_255 (by decide) (fun _ => ?_) (fun c9 => absurd c9 (by decide))
      refine lv_iload hx hb dL_law_260 (lv_at hl 1 rfl) ?_
      refine lv_if_ne (tgt := 277) hx hb dL_law_262 (by decide) (fun _ => ?_) (fun c9 => absurd c9 (by decide))
      refine lv_goto (tgt := 974) hx hb dL_law_277 (by decide) ?_
      refine K _ _ _ ⟨k, tn, own, oth, mm, kk, ao, aq, mk, wn, cnt, lo, lq, 2, wf, wb, Af, lf, hf, tf, gf, ef, ff, u0, oF, dF, ⟨hk1, hsd, hO, hQ, hkk, htb, hmk, hmm, hwn, hhas, hrow, hl1, hl2, htf, hff⟩, hP⟩ hS (lv_sub hl [2, 3, 4, 5, 6, 7] rfl)
    · skip
      obtain ⟨fr, f1, f2, f3⟩ := hw
      have e5 : fr = fr2 := (nI_eq (by omega) (by omega)).mp (f2.symm.trans g2)
      rw [e5] at f3
      exact absurd (g3.symm.trans f3) (by decide)

theorem zL4 {L a : Nat} (hL : L ≤ 2048) (ha : a ≤ 2048) (h : ¬ (Int32.ofNat L - 4 < nI a)) : a + 4 ≤ L := by
  rcases Nat.lt_or_ge L 4 with h4 | h4
  · exact absurd (by
      refine Int32.lt_of_lt_of_le (b := 0) ?_ (show (0 : Int32) ≤ nI a from (nI_leI (a := 0) (by omega) (by omega)).mpr (by omega))
      rcases (show L = 0 ∨ L = 1 ∨ L = 2 ∨ L = 3 by omega) with rfl | rfl | rfl | rfl <;> decide) h
  · have e1 : Int32.ofNat L - 4 = nI (L - 4) := pk_sub (a := L) (b := 4) (by omega)
    rw [e1] at h
    have h2 : ¬ (L - 4 < a) := fun h9 => h ((nI_ltI (by omega) (by omega)).mpr h9)
    omega
set_option maxHeartbeats 4000000 in
set_option maxRecDepth 100000 in
theorem law_loop {p : Program} {l : Launch} {e : Env} {s : State} {m : MethodId} {args : Array Value} {below : List Frame} {meth : Method} {c : Code} {Q : State → Prop} {dC : Nat → ClassId} {dI : Nat → Nat → Nat} {cyI cyJ cyD : ClassId} {b L tb ax a0 a1 ae at_ aw bx bl ba bt bg be bf bw bs bm bn bb bu bh aL aD : Nat} {xs : Nat → Int32} (E0 : zLE p l s m args c dC dI cyI cyJ cyD b L tb ax a0 a1 ae at_ aw bx bl ba bt bg be bf bw bs bm bn bb bu bh aL aD xs)
    (KE : ∀ (H : Heap) (locs : List Loc) (ls : Array Slot), va_S (fun q : Nat => s.heap.size ≤ q) s.heap H locs → W p l e room_1 s m args below meth c H locs 601024 7293034 Q (F0 m 980 ls [])) :
    ∀ (n9 j : Nat), 4 * j ≤ L → 513 - j < n9 → ∀ (H : Heap) (locs : List Loc) (ls : Array Slot), zInv dC dI cyI cyJ cyD ax a0 a1 ae at_ aw bx bl ba bt bg be bf bw bs bm bn bb bu bh aL aD H → va_S (fun q : Nat => s.heap.size ≤ q) s.heap H locs → lv_has ls 9 [(5, .int (nI (4 * j))), (4, .ref aD), (3, .ref aL), (2, .ref bx), (1, .ref ax), (0, .ref b)] → W p l e room_1 s m args below meth c H locs (22 + 4 * j) (14465 + 24 * j) Q (F0 m 28 ls []) := by
  intro n9
  induction n9 with
  | zero => intro j _ h; exact absurd h (Nat.not_lt_zero _)
  | succ n9 ih =>
    intro j hjL hm9 H locs ls hI hS hl
    have hE := E0
    obtain ⟨hx, hb, hml, hown, hts, hX, hbl, hLL, hl0, hK3, hH, hAl⟩ := hE
    have hbA : ¬ (fun q : Nat => s.heap.size ≤ q) b := Nat.not_le.mpr hbl
    refine lv_iload hx hb dL_law_28 (lv_at hl 0 rfl) ?_
    refine lv_aload_n hx hb dL_law_30 rfl (lv_at hl 5 rfl) ?_
    refine va_slen hx hb hX hbl hbA hS dL_law_31 ?_
    refine lv_iconst (v := 4) hx hb dL_law_32 (by decide) ?_
    refine lv_isub hx hb dL_law_33 ?_
    refine lv_icmp_gt (tgt := 980) hx hb dL_law_34 (by decide) (fun _ => ?_) (fun c9 => ?_)
    · refine W.widen (k := 601024) (n := 7293034) (by omega) (by omega) ?_
      exact KE H locs ls hS
    · have hj : 4 * j + 4 ≤ L := zL4 hLL (by omega) c9
      have K : ∀ (H : Heap) (locs : List Loc) (ls : Array Slot), zInv dC dI cyI cyJ cyD ax a0 a1 ae at_ aw bx bl ba bt bg be bf bw bs bm bn bb bu bh aL aD H → va_S (fun q : Nat => s.heap.size ≤ q) s.heap H locs → lv_has ls 9 [(5, .int (nI (4 * j))), (4, .ref aD), (3, .ref aL), (2, .ref bx), (1, .ref ax), (0, .ref b)] → W p l e room_1 s m args below meth c H locs (22 + 4 * (j + 1)) (14465 + 24 * (j + 1)) Q (F0 m 974 ls []) := by
        intro H locs ls hI hS hl
        refine lv_iinc (v := nI (4 * (j + 1))) (lv' := [(5, .int (nI (4 * (j + 1)))), (4, .ref aD), (3, .ref aL), (2, .ref bx), (1, .ref ax), (0, .ref b)]) hx hb dL_law_974 hl (k := 0) rfl (by rw [show 4 * (j + 1) = 4 * j + 4 by omega]; exact nI_add (4 * j) 4) (by decide) rfl (fun ls hl => ?_)
        refine lv_goto (tgt := 28) hx hb dL_law_977 (by decide) ?_
        exact ih (j + 1) (by omega) (by omega) H locs ls hI hS hl
      refine lv_aload_n hx hb dL_law_37 rfl (lv_at hl 5 rfl) ?_
      refine lv_iload hx hb dL_law_38 (lv_at hl 0 rfl) ?_
      refine va_sld hx hb hX hbl hbA hS (vp_in_nI (n := 4 * j) (by omega) (by omega)) dL_law_40 ?_
      refine lv_bipush (v := 31) hx hb dL_law_41 (by decide) ?_
      refine lv_iand hx hb dL_law_43 ?_
      generalize xs (nI (4 * j)).toNatClampNeg &&& 31 = t9
      by_cases ht9 : t9.toInt < 0 ∨ 17 < t9.toInt
      · refine lv_tableOut (tgt := 974) hx hb dL_law_44 ht9 (by decide) ?_
        refine W.widen (k := 22 + 4 * (j + 1)) (n := 14465 + 24 * (j + 1)) (by omega) (by omega) ?_
        exact K H locs ls hI hS hl
      · have h1 : ¬ t9.toInt < 0 := fun h => ht9 (Or.inl h)
        have h2 : ¬ 17 < t9.toInt := fun h => ht9 (Or.inr h)
        rcases (show t9.toInt = 0 ∨ t9.toInt = 1 ∨ t9.toInt = 2 ∨ t9.toInt = 3 ∨ t9.toInt = 4 ∨ t9.toInt = 5 ∨ t9.toInt = 6 ∨ t9.toInt = 7 ∨ t9.toInt = 8 ∨ t9.toInt = 9 ∨ t9.toInt = 10 ∨ t9.toInt = 11 ∨ t9.toInt = 12 ∨ t9.toInt = 13 ∨ t9.toInt = 14 ∨ t9.toInt = 15 ∨ t9.toInt = 16 ∨ t9.toInt = 17 by omega) with e9 | e9 | e9 | e9 | e9 | e9 | e9 | e9 | e9 | e9 | e9 | e9 | e9 | e9 | e9 | e9 | e9 | e9
        · exact lv_tableIn (off := 88) (tgt := 132) hx hb dL_law_44 h1 h2 (by rw [e9]; rfl) (by decide) (law_begin E0 j hj hI hS hl K)
        · exact lv_tableIn (off := 124) (tgt := 168) hx hb dL_law_44 h1 h2 (by rw [e9]; rfl) (by decide) (law_tell E0 j hj hI hS hl K)
        · exact lv_tableIn (off := 180) (tgt := 224) hx hb dL_law_44 h1 h2 (by rw [e9]; rfl) (by decide) (law_move E0 j hj hI hS hl K)
        · exact lv_tableIn (off := 236) (tgt := 280) hx hb dL_law_44 h1 h2 (by rw [e9]; rfl) (by decide) (law_turn E0 j hj hI hS hl K)
        · exact lv_tableIn (off := 249) (tgt := 293) hx hb dL_law_44 h1 h2 (by rw [e9]; rfl) (by decide) (law_marks E0 j hj hI hS hl K)
        · exact lv_tableIn (off := 262) (tgt := 306) hx hb dL_law_44 h1 h2 (by rw [e9]; rfl) (by decide) (law_winner E0 j hj hI hS hl K)
        · exact lv_tableIn (off := 275) (tgt := 319) hx hb dL_law_44 h1 h2 (by rw [e9]; rfl) (by decide) (law_at E0 j hj hI hS hl K)
        · exact lv_tableIn (off := 343) (tgt := 387) hx hb dL_law_44 h1 h2 (by rw [e9]; rfl) (by decide) (law_progress E0 j hj hI hS hl K)
        · exact lv_tableIn (off := 399) (tgt := 443) hx hb dL_law_44 h1 h2 (by rw [e9]; rfl) (by decide) (law_captured E0 j hj hI hS hl K)
        · exact lv_tableIn (off := 455) (tgt := 499) hx hb dL_law_44 h1 h2 (by rw [e9]; rfl) (by decide) (law_throwsTold E0 j hj hI hS hl K)
        · exact lv_tableIn (off := 468) (tgt := 512) hx hb dL_law_44 h1 h2 (by rw [e9]; rfl) (by decide) (law_moves E0 j hj hI hS hl K)
        · exact lv_tableIn (off := 481) (tgt := 525) hx hb dL_law_44 h1 h2 (by rw [e9]; rfl) (by decide) (law_moveAt E0 j hj hI hS hl K)
        · exact lv_tableIn (off := 506) (tgt := 550) hx hb dL_law_44 h1 h2 (by rw [e9]; rfl) (by decide) (law_captures E0 j hj hI hS hl K)
        · exact lv_tableIn (off := 569) (tgt := 613) hx hb dL_law_44 h1 h2 (by rw [e9]; rfl) (by decide) (law_worth E0 j hj hI hS hl K)
        · exact lv_tableIn (off := 625) (tgt := 669) hx hb dL_law_44 h1 h2 (by rw [e9]; rfl) (by decide) (law_chance E0 j hj hI hS hl K)
        · exact lv_tableIn (off := 702) (tgt := 746) hx hb dL_law_44 h1 h2 (by rw [e9]; rfl) (by decide) (law_ranked E0 j hj hI hS hl K)
        · exact lv_tableIn (off := 770) (tgt := 814) hx hb dL_law_44 h1 h2 (by rw [e9]; rfl) (by decide) (law_ending E0 j hj hI hS hl K)
        · exact lv_tableIn (off := 850) (tgt := 894) hx hb dL_law_44 h1 h2 (by rw [e9]; rfl) (by decide) (law_endingByThrows E0 j hj hI hS hl K)

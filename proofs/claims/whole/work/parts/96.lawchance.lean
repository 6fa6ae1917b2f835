/-! the law: a chance -/
section ZC
variable {p : Program} {l : Launch} {e : Env} {R : Room} {s : State} {m : MethodId} {args : Array Value} {below : List Frame} {meth : Method} {c : Code} {H : Heap} {locs : List Loc} {cells slots : Nat} {Q : State → Prop}
variable {cc : ByteArray} {pc : Nat} {ls : Array Slot} {rest st0 : List Value} {D : va_G} {cl : List vw_C} {A A0 : Nat → Prop} {a : Nat} {tys : List (ClassId × FieldType)} {ws : va_W} {H0 : Heap} {av : Array Value}
theorem zi_dald (hexec : p.tables.exec = Jvm.exec) (hb : c.code = cc) (hK : va_K D cl tys s) (hP : va_P D cl ws H) (q0 t0 : Nat) {cA : ClassId} {n : Nat} {f : Nat → UInt64} (ha : ws[q0]? = some (a, .inl (cA, n, .inr (.inr (.inr (.inl f)))))) (ht : tys[t0]? = some (cA, .double)) {i : Int32} {j : Nat} (hi : i = nI j) (hj : j < n) (hn : n < 2 ^ 31) (hdg : decode cc pc = .ok (.daload, 1))
    (kk : W p l e R s m args below meth c H locs cells slots Q (F0 m (pc + 1) ls (.double (f j) :: rest))) : W p l e R s m args below meth c H locs cells slots Q (F0 m pc ls (.int i :: .ref a :: rest)) := by
  subst hi
  refine va_dald hexec hb hK hP q0 t0 ha ht (vp_in_nI hj hn) hdg ?_
  rw [nI_clamp (by omega)]
  exact kk
theorem zrw_d {σ : Type} {post : UInt64 → σ → Prop} {w1 : σ → va_W} {al : List Nat} (hr : va_Run p l e R s m args below meth c H locs cells slots 0 0 (F0 m pc ls st0) rest (va_Qd post (fun u t => va_P D cl (w1 u) t.heap) (zA al) av) (zA al)) (hP : va_P D cl ws H) (hDD : zD A0 (ws.map Prod.fst)) (hS : va_S A0 H0 H locs) (isC : List Nat) (hal : isC.map (fun i => (ws[i]?).map Prod.fst) = al.map some) (hw1 : ∀ u, (w1 u).map Prod.fst = al)
    (kk : ∀ (r : UInt64) (u : σ) (H1 : Heap) (locs1 : List Loc), post r u → va_P D cl (zset ws isC (w1 u)) H1 → va_S A0 H0 H1 locs1 → W p l e R s m args below meth c H1 locs1 cells slots Q (F0 m (pc + 3) ls (.double r :: rest))) : W p l e R s m args below meth c H locs cells slots Q (F0 m pc ls st0) :=
  va_calld hr hS (fun q _ h => zA_sub hDD hal q h) (zA_sub hDD hal) (fun r u t H1 locs1 ht hvm hw hB hz1 hk1 hS1 => kk r u H1 locs1 hw (zP_set isC hP hDD hal (hw1 u) hk1 (by rw [← ht]; exact hB)) hS1)
end ZC
set_option maxHeartbeats 4000000 in
set_option maxRecDepth 100000 in
theorem law_chance {p : Program} {l : Launch} {e : Env} {s : State} {m : MethodId} {args : Array Value} {below : List Frame} {meth : Method} {c : Code} {Q : State → Prop} {dC : Nat → ClassId} {dI : Nat → Nat → Nat} {cyI cyJ cyD : ClassId} {b L tb ax a0 a1 ae at_ aw bx bl ba bt bg be bf bw bs bm bn bb bu bh aL aD : Nat} {xs : Nat → Int32} (E0 : zLE p l s m args c dC dI cyI cyJ cyD b L tb ax a0 a1 ae at_ aw bx bl ba bt bg be bf bw bs bm bn bb bu bh aL aD xs) (j : Nat) (hj : 4 * j + 4 ≤ L) {H : Heap} {locs : List Loc} (hI : zInv dC dI cyI cyJ cyD ax a0 a1 ae at_ aw bx bl ba bt bg be bf bw bs bm bn bb bu bh aL aD H) (hS : va_S (fun q : Nat => s.heap.size ≤ q) s.heap H locs) {ls : Array Slot} (hl : lv_has ls 9 [(5, .int (nI (4 * j))), (4, .ref aD), (3, .ref aL), (2, .ref bx), (1, .ref ax), (0, .ref b)])
    (K : ∀ (H : Heap) (locs : List Loc) (ls : Array Slot), zInv dC dI cyI cyJ cyD ax a0 a1 ae at_ aw bx bl ba bt bg be bf bw bs bm bn bb bu bh aL aD H → va_S (fun q : Nat => s.heap.size ≤ q) s.heap H locs → lv_has ls 9 [(5, .int (nI (4 * j))), (4, .ref aD), (3, .ref aL), (2, .ref bx), (1, .ref ax), (0, .ref b)] → W p l e room_1 s m args below meth c H locs (22 + 4 * (j + 1)) (14465 + 24 * (j + 1)) Q (F0 m 974 ls [])) : W p l e room_1 s m args below meth c H locs (22 + 4 * j) (14465 + 24 * j) Q (F0 m 669 ls []) := by
  obtain ⟨hx, hb, hml, hown, hts, hX, hbl, hLL, hl0, hK3, hH, hAl⟩ := E0
  have hK := hK3.sub (tys' := [(cyI, .int), (cyJ, .long)]) [0, 1] rfl
  have hbA : ¬ (fun q : Nat => s.heap.size ≤ q) b := Nat.not_le.mpr hbl
  obtain ⟨k, tn, own, oth, mm, kk, ao, aq, mk, wn, cnt, lo, lq, thr, wf, wb, Af, lf, hf, tf, gf, ef, ff, u0, oF, dF, ⟨hk1, hsd, hO, hQ, hkk, htb, hmk, hmm, hwn, hhas, hrow, hl1, hl2, htf, hff⟩, hP⟩ := hI
  have hDD := zD_side hsd hAl
  have htn := zSd_le hsd
  obtain ⟨v1, hv1⟩ : ∃ v, v = xs (4 * j + 1) := ⟨_, rfl⟩
  refine lv_aload_n hx hb dL_law_669 rfl (lv_at hl 4 rfl) ?_
  refine lv_aload_n hx hb dL_law_670 rfl (lv_at hl 5 rfl) ?_
  refine lv_iload hx hb dL_law_671 (lv_at hl 0 rfl) ?_
  refine lv_iconst (v := 1) hx hb dL_law_673 (by decide) ?_
  refine lv_iadd hx hb dL_law_674 ?_
  refine zz_i (y := nI (4 * j + 1)) (nI_add (4 * j) 1) ?_
  refine va_sld hx hb hX hbl hbA hS (vp_in_nI (n := 4 * j + 1) (by omega) (by omega)) dL_law_675 ?_
  refine zz_i (y := v1) (by rw [nI_clamp (by omega), hv1]) ?_
  refine lv_aload hx hb dL_law_676 (lv_at hl 1 rfl) ?_
  refine zlw_i (vx_runSX (As := [.ref ax, .int v1, .ref aD]) (rest := []) ⟨hx, hb, hml, hown, hts⟩ (c_L_chance l hl0 dC dI cyI cyJ tb ax a0 a1 ae aw at_ ao aq mk wn cnt lo lq wf k kk tn own oth mm hsd hO hQ hk1 hkk htb hmk hmm v1 aD dF cyD (z_nd hDD.1 [0, 1, 2, 3, 4, 21] (by decide) rfl)) (vx_cwSW 3 hts gL_law_L_chance rfl rfl rfl (by decide +kernel) ⟨Nat.le_of_ble_eq_true rfl, Nat.le_of_ble_eq_true rfl⟩) (zPc_S zB_H hP hK3 [0, 1, 2, 3, 4, 21] rfl (zH_at hH hS (fun q hq => hDD.2 q (zA_pl [0, 1, 2, 3, 4, 21] rfl q hq)))) rfl rfl hl.1 rfl (lv_room (Nat.le_of_ble_eq_true rfl)) dL_law_678 ⟨by show 22 + 4 * j + 1 ≤ 601024; omega, by show 14465 + 24 * j + 6 ≤ 7293034; omega⟩) hP hDD hS [0, 1, 2, 3, 4, 21] rfl (fun u => by rcases u with ⟨_ | _, _⟩ <;> rfl) (fun r9 u9 H locs hw hP hS => ?_)
  refine W.widen (k := 22 + 4 * (j + 1)) (n := 14465 + 24 * (j + 1)) (by omega) (by omega) ?_
  obtain ⟨u8, dF9⟩ := u9
  rcases hw with ⟨x8, r8, e8, rfl, hw, hout⟩ | ⟨e8, rfl, hw⟩
  · skip
    cases e8
    have hP : va_P (dC, dI) vwCl [(ax, .inr (2, [.ref a0, .ref a1, .ref ae, .ref aw, .int (nI k), .int (nI tn), .int mk, .int wn, .int cnt])), (ao, .inr (1, [.long (lN own), .int lo])), (aq, .inr (1, [.long (lN oth), .int lq])), (ae, .inr (0, [.ref at_, .int (nI x8.1)])), (at_, .inl (cyI, 13500, .inl x8.2)), (aw, .inl (cyI, 15, .inl wb)), (bx, .inr (3, [.int thr, .int (nI k), .int (nI tn), .int mk, .int wn, .int cnt, .ref bl, .ref ba, .ref bt, .ref bg, .ref be, .ref bf, .ref bw, .ref bs, .ref bm, .ref bn, .ref bb, .ref bu, .ref bh])), (bl, .inl (cyI, 2, .inl lf)), (ba, .inl (cyI, 32, .inl Af)), (bt, .inl (cyI, 5, .inl tf)), (bg, .inl (cyI, 225, .inl gf)), (be, .inl (cyI, 225, .inl ef)), (bf, .inl (cyI, 225, .inl ff)), (bw, .inl (cyI, 160, .inl u0.1)), (bs, .inl (cyI, 5, .inl u0.2.1)), (bm, .inl (cyI, 5, .inl u0.2.2.1)), (bn, .inl (cyI, 5, .inl u0.2.2.2.1)), (bb, .inl (cyI, 5, .inl u0.2.2.2.2.1)), (bu, .inl (cyJ, 5, .inr (.inl u0.2.2.2.2.2))), (bh, .inl (cyI, 15, .inl hf)), (aL, .inl (cyJ, 1, .inr (.inl oF))), (aD, .inl (cyD, 1, .inr (.inr (.inr (.inl dF9)))))] H := hP
    refine lv_istore (lv' := [(6, .int 0), (5, .int (nI (4 * j))), (4, .ref aD), (3, .ref aL), (2, .ref bx), (1, .ref ax), (0, .ref b)]) hx hb dL_law_681 hl (by decide) rfl (fun ls hl => ?_)
    refine lv_aload_n hx hb dL_law_683 rfl (lv_at hl 4 rfl) ?_
    refine lv_aload_n hx hb dL_law_684 rfl (lv_at hl 6 rfl) ?_
    refine lv_iload hx hb dL_law_685 (lv_at hl 1 rfl) ?_
    refine lv_iconst (v := 1) hx hb dL_law_687 (by decide) ?_
    refine lv_iadd hx hb dL_law_688 ?_
    refine zz_i (y := nI (4 * j + 1)) (nI_add (4 * j) 1) ?_
    refine va_sld hx hb hX hbl hbA hS (vp_in_nI (n := 4 * j + 1) (by omega) (by omega)) dL_law_689 ?_
    refine zz_i (y := v1) (by rw [nI_clamp (by omega), hv1]) ?_
    refine zrw_d (w1 := fun u : Int32 × (Nat → Int32) × zU => [(bx, .inr (3, [.int u.1, .int (nI k), .int (nI tn), .int mk, .int wn, .int cnt, .ref bl, .ref ba, .ref bt, .ref bg, .ref be, .ref bf, .ref bw, .ref bs, .ref bm, .ref bn, .ref bb, .ref bu, .ref bh])), (ba, .inl (cyI, 32, .inl Af)), (bh, .inl (cyI, 15, .inl u.2.1)), (bt, .inl (cyI, 5, .inl tf)), (bf, .inl (cyI, 225, .inl ff)), (bw, .inl (cyI, 160, .inl u.2.2.1)), (bs, .inl (cyI, 5, .inl u.2.2.2.1)), (bm, .inl (cyI, 5, .inl u.2.2.2.2.1)), (bn, .inl (cyI, 5, .inl u.2.2.2.2.2.1)), (bb, .inl (cyI, 5, .inl u.2.2.2.2.2.2.1)), (bu, .inl (cyJ, 5, .inr (.inl u.2.2.2.2.2.2.2)))]) (al := [bx, ba, bh, bt, bf, bw, bs, bm, bn, bb, bu]) (va_runV (As := [.int v1]) (rest := []) ⟨hx, hb, hml, hown, hts⟩ (c_X6_chance l dC dI cyI cyJ k hk1 bx bl ba bt bg be bf bw bs bm bn bb bu bh thr mk wn cnt tf ff Af hf htf hff u0 tn own oth mm htn hO hQ hrow hmk hmm hhas v1 (z_nd hDD.1 [6, 8, 19, 9, 12, 13, 14, 15, 16, 17, 18] (by decide) rfl)) (cwV 1 hts gL_law_X6_chance rfl rfl rfl (by decide +kernel) ⟨Nat.le_of_ble_eq_true rfl, Nat.le_of_ble_eq_true rfl⟩) (zPc_V (ci := 3) (q0 := 6) zB_T hP hK rfl rfl [6, 8, 19, 9, 12, 13, 14, 15, 16, 17, 18] rfl (fun _ _ _ => trivial)) rfl rfl hl.1 rfl (lv_room (Nat.le_of_ble_eq_true rfl)) dL_law_690 ⟨by show 22 + 4 * (j + 1) + 0 ≤ 601024; omega, by show 14465 + 24 * (j + 1) + 0 ≤ 7293034; omega⟩) hP hDD hS [6, 8, 19, 9, 12, 13, 14, 15, 16, 17, 18] rfl (fun _ => rfl) (fun r7 u7 H locs h7 hP hS => ?_)
    have hP : va_P (dC, dI) vwCl [(ax, .inr (2, [.ref a0, .ref a1, .ref ae, .ref aw, .int (nI k), .int (nI tn), .int mk, .int wn, .int cnt])), (ao, .inr (1, [.long (lN own), .int lo])), (aq, .inr (1, [.long (lN oth), .int lq])), (ae, .inr (0, [.ref at_, .int (nI x8.1)])), (at_, .inl (cyI, 13500, .inl x8.2)), (aw, .inl (cyI, 15, .inl wb)), (bx, .inr (3, [.int u7.1, .int (nI k), .int (nI tn), .int mk, .int wn, .int cnt, .ref bl, .ref ba, .ref bt, .ref bg, .ref be, .ref bf, .ref bw, .ref bs, .ref bm, .ref bn, .ref bb, .ref bu, .ref bh])), (bl, .inl (cyI, 2, .inl lf)), (ba, .inl (cyI, 32, .inl Af)), (bt, .inl (cyI, 5, .inl tf)), (bg, .inl (cyI, 225, .inl gf)), (be, .inl (cyI, 225, .inl ef)), (bf, .inl (cyI, 225, .inl ff)), (bw, .inl (cyI, 160, .inl u7.2.2.1)), (bs, .inl (cyI, 5, .inl u7.2.2.2.1)), (bm, .inl (cyI, 5, .inl u7.2.2.2.2.1)), (bn, .inl (cyI, 5, .inl u7.2.2.2.2.2.1)), (bb, .inl (cyI, 5, .inl u7.2.2.2.2.2.2.1)), (bu, .inl (cyJ, 5, .inr (.inl u7.2.2.2.2.2.2.2))), (bh, .inl (cyI, 15, .inl u7.2.1)), (aL, .inl (cyJ, 1, .inr (.inl oF))), (aD, .inl (cyD, 1, .inr (.inr (.inr (.inl dF9)))))] H := hP
    rcases h7 with ⟨e7, h7⟩ | ⟨e7, h7⟩
    · skip
      have e7 : u7.1 = 0 := e7
      rw [e7] at hP
      have hP : va_P (dC, dI) vwCl [(ax, .inr (2, [.ref a0, .ref a1, .ref ae, .ref aw, .int (nI k), .int (nI tn), .int mk, .int wn, .int cnt])), (ao, .inr (1, [.long (lN own), .int lo])), (aq, .inr (1, [.long (lN oth), .int lq])), (ae, .inr (0, [.ref at_, .int (nI x8.1)])), (at_, .inl (cyI, 13500, .inl x8.2)), (aw, .inl (cyI, 15, .inl wb)), (bx, .inr (3, [.int 0, .int (nI k), .int (nI tn), .int mk, .int wn, .int cnt, .ref bl, .ref ba, .ref bt, .ref bg, .ref be, .ref bf, .ref bw, .ref bs, .ref bm, .ref bn, .ref bb, .ref bu, .ref bh])), (bl, .inl (cyI, 2, .inl lf)), (ba, .inl (cyI, 32, .inl Af)), (bt, .inl (cyI, 5, .inl tf)), (bg, .inl (cyI, 225, .inl gf)), (be, .inl (cyI, 225, .inl ef)), (bf, .inl (cyI, 225, .inl ff)), (bw, .inl (cyI, 160, .inl u7.2.2.1)), (bs, .inl (cyI, 5, .inl u7.2.2.2.1)), (bm, .inl (cyI, 5, .inl u7.2.2.2.2.1)), (bn, .inl (cyI, 5, .inl u7.2.2.2.2.2.1)), (bb, .inl (cyI, 5, .inl u7.2.2.2.2.2.2.1)), (bu, .inl (cyJ, 5, .inr (.inl u7.2.2.2.2.2.2.2))), (bh, .inl (cyI, 15, .inl u7.2.1)), (aL, .inl (cyJ, 1, .inr (.inl oF))), (aD, .inl (cyD, 1, .inr (.inr (.inr (.inl dF9)))))] H := hP
      obtain ⟨xN, h1, h2, hT8, hK8, h3⟩ := hw
      obtain ⟨xM, g1, g2, g3⟩ := h7
      obtain rfl : xN = xM := (nI_eq (by omega) (by omega)).mp (h2.symm.trans g2)
      have hdc : FP.dcmp (dF9 0) r7 = some .eq := by rw [show dF9 0 = _ from hout, h3, g3]; exact FP.Core.dcmp_self (Jvm.Free.Fl.val64_no.mp (zch _))
      refine lv_dstore (lv' := [(7, .double r7), (6, .int 0), (5, .int (nI (4 * j))), (4, .ref aD), (3, .ref aL), (2, .ref bx), (1, .ref ax), (0, .ref b)]) hx hb dL_law_693 hl (by decide) rfl (fun ls hl => ?_)
      refine lv_aload_n hx hb dL_law_695 rfl (lv_at hl 5 rfl) ?_
      refine zro_i (va_runV (As := []) (rest := []) ⟨hx, hb, hml, hown, hts⟩ (c_X6_thrown l dC dI cyI cyJ (nI k) bx bl ba bt bg be bf bw bs bm bn bb bu bh 0 (nI tn) mk wn cnt) (cwV 0 hts gL_law_X6_thrown rfl rfl rfl (by decide +kernel) ⟨Nat.le_of_ble_eq_true rfl, Nat.le_of_ble_eq_true rfl⟩) (zPc_V (ci := 3) (q0 := 6) zB_T hP hK rfl rfl [6] rfl (fun _ _ _ => trivial)) rfl rfl hl.1 rfl (lv_room (Nat.le_of_ble_eq_true rfl)) dL_law_696 ⟨by show 22 + 4 * (j + 1) + 0 ≤ 601024; omega, by show 14465 + 24 * (j + 1) + 0 ≤ 7293034; omega⟩) hP hS (fun H locs hP hS => ?_)
      refine lv_iload hx hb dL_law_699 (lv_at hl 1 rfl) ?_
      refine lv_icmp_eq (tgt := 706) hx hb dL_law_701 (by decide) (fun _ => ?_) (fun c9 => absurd c9 (by decide))
      refine lv_iload hx hb dL_law_706 (lv_at hl 1 rfl) ?_
      refine lv_if_ne (tgt := 743) hx hb dL_law_708 (by decide) (fun c9 => absurd c9 (by decide)) (fun _ => ?_)
      refine lv_aload hx hb dL_law_711 (lv_at hl 3 rfl) ?_
      refine lv_iconst (v := 0) hx hb dL_law_713 (by decide) ?_
      refine zi_dald hx hb hK3 hP 21 2 rfl rfl (j := 0) rfl (by omega) (by decide) dL_law_714 ?_
      refine lv_dload hx hb dL_law_715 (lv_at hl 0 rfl) ?_
      refine lv_dcmp hx hb dL_law_717 ?_
      refine zz_i (y := 0) (by rw [hdc]; rfl) ?_
      refine lv_if_eq (tgt := 743) hx hb dL_law_718 (by decide) (fun _ => ?_) (fun c9 => absurd c9 (by decide))
      refine lv_goto (tgt := 974) hx hb dL_law_743 (by decide) ?_
      refine K _ _ _ ⟨k, tn, own, oth, mm, x8.1, ao, aq, mk, wn, cnt, lo, lq, 0, x8.2, wb, Af, lf, u7.2.1, tf, gf, ef, ff, u7.2.2, oF, dF9, ⟨hk1, hsd, hO, hQ, hK8, hT8, hmk, hmm, hwn, hhas, hrow, hl1, hl2, htf, hff⟩, hP⟩ hS (lv_sub hl [2, 3, 4, 5, 6, 7] rfl)
    · skip
      obtain ⟨xN, h1, h2, hT8, hK8, h3⟩ := hw
      exact absurd ((zin_iff (n := 3) (by decide)).mpr ⟨xN, h1, h2⟩) h7
  · skip
    cases e8
    have hP : va_P (dC, dI) vwCl [(ax, .inr (2, [.ref a0, .ref a1, .ref ae, .ref aw, .int (nI k), .int (nI tn), .int mk, .int wn, .int cnt])), (ao, .inr (1, [.long (lN own), .int lo])), (aq, .inr (1, [.long (lN oth), .int lq])), (ae, .inr (0, [.ref at_, .int (nI kk)])), (at_, .inl (cyI, 13500, .inl wf)), (aw, .inl (cyI, 15, .inl wb)), (bx, .inr (3, [.int thr, .int (nI k), .int (nI tn), .int mk, .int wn, .int cnt, .ref bl, .ref ba, .ref bt, .ref bg, .ref be, .ref bf, .ref bw, .ref bs, .ref bm, .ref bn, .ref bb, .ref bu, .ref bh])), (bl, .inl (cyI, 2, .inl lf)), (ba, .inl (cyI, 32, .inl Af)), (bt, .inl (cyI, 5, .inl tf)), (bg, .inl (cyI, 225, .inl gf)), (be, .inl (cyI, 225, .inl ef)), (bf, .inl (cyI, 225, .inl ff)), (bw, .inl (cyI, 160, .inl u0.1)), (bs, .inl (cyI, 5, .inl u0.2.1)), (bm, .inl (cyI, 5, .inl u0.2.2.1)), (bn, .inl (cyI, 5, .inl u0.2.2.2.1)), (bb, .inl (cyI, 5, .inl u0.2.2.2.2.1)), (bu, .inl (cyJ, 5, .inr (.inl u0.2.2.2.2.2))), (bh, .inl (cyI, 15, .inl hf)), (aL, .inl (cyJ, 1, .inr (.inl oF))), (aD, .inl (cyD, 1, .inr (.inr (.inr (.inl dF9)))))] H := hP
    refine lv_istore (lv' := [(6, .int 1), (5, .int (nI (4 * j))), (4, .ref aD), (3, .ref aL), (2, .ref bx), (1, .ref ax), (0, .ref b)]) hx hb dL_law_681 hl (by decide) rfl (fun ls hl => ?_)
    refine lv_aload_n hx hb dL_law_683 rfl (lv_at hl 4 rfl) ?_
    refine lv_aload_n hx hb dL_law_684 rfl (lv_at hl 6 rfl) ?_
    refine lv_iload hx hb dL_law_685 (lv_at hl 1 rfl) ?_
    refine lv_iconst (v := 1) hx hb dL_law_687 (by decide) ?_
    refine lv_iadd hx hb dL_law_688 ?_
    refine zz_i (y := nI (4 * j + 1)) (nI_add (4 * j) 1) ?_
    refine va_sld hx hb hX hbl hbA hS (vp_in_nI (n := 4 * j + 1) (by omega) (by omega)) dL_law_689 ?_
    refine zz_i (y := v1) (by rw [nI_clamp (by omega), hv1]) ?_
    refine zrw_d (w1 := fun u : Int32 × (Nat → Int32) × zU => [(bx, .inr (3, [.int u.1, .int (nI k), .int (nI tn), .int mk, .int wn, .int cnt, .ref bl, .ref ba, .ref bt, .ref bg, .ref be, .ref bf, .ref bw, .ref bs, .ref bm, .ref bn, .ref bb, .ref bu, .ref bh])), (ba, .inl (cyI, 32, .inl Af)), (bh, .inl (cyI, 15, .inl u.2.1)), (bt, .inl (cyI, 5, .inl tf)), (bf, .inl (cyI, 225, .inl ff)), (bw, .inl (cyI, 160, .inl u.2.2.1)), (bs, .inl (cyI, 5, .inl u.2.2.2.1)), (bm, .inl (cyI, 5, .inl u.2.2.2.2.1)), (bn, .inl (cyI, 5, .inl u.2.2.2.2.2.1)), (bb, .inl (cyI, 5, .inl u.2.2.2.2.2.2.1)), (bu, .inl (cyJ, 5, .inr (.inl u.2.2.2.2.2.2.2)))]) (al := [bx, ba, bh, bt, bf, bw, bs, bm, bn, bb, bu]) (va_runV (As := [.int v1]) (rest := []) ⟨hx, hb, hml, hown, hts⟩ (c_X6_chance l dC dI cyI cyJ k hk1 bx bl ba bt bg be bf bw bs bm bn bb bu bh thr mk wn cnt tf ff Af hf htf hff u0 tn own oth mm htn hO hQ hrow hmk hmm hhas v1 (z_nd hDD.1 [6, 8, 19, 9, 12, 13, 14, 15, 16, 17, 18] (by decide) rfl)) (cwV 1 hts gL_law_X6_chance rfl rfl rfl (by decide +kernel) ⟨Nat.le_of_ble_eq_true rfl, Nat.le_of_ble_eq_true rfl⟩) (zPc_V (ci := 3) (q0 := 6) zB_T hP hK rfl rfl [6, 8, 19, 9, 12, 13, 14, 15, 16, 17, 18] rfl (fun _ _ _ => trivial)) rfl rfl hl.1 rfl (lv_room (Nat.le_of_ble_eq_true rfl)) dL_law_690 ⟨by show 22 + 4 * (j + 1) + 0 ≤ 601024; omega, by show 14465 + 24 * (j + 1) + 0 ≤ 7293034; omega⟩) hP hDD hS [6, 8, 19, 9, 12, 13, 14, 15, 16, 17, 18] rfl (fun _ => rfl) (fun r7 u7 H locs h7 hP hS => ?_)
    have hP : va_P (dC, dI) vwCl [(ax, .inr (2, [.ref a0, .ref a1, .ref ae, .ref aw, .int (nI k), .int (nI tn), .int mk, .int wn, .int cnt])), (ao, .inr (1, [.long (lN own), .int lo])), (aq, .inr (1, [.long (lN oth), .int lq])), (ae, .inr (0, [.ref at_, .int (nI kk)])), (at_, .inl (cyI, 13500, .inl wf)), (aw, .inl (cyI, 15, .inl wb)), (bx, .inr (3, [.int u7.1, .int (nI k), .int (nI tn), .int mk, .int wn, .int cnt, .ref bl, .ref ba, .ref bt, .ref bg, .ref be, .ref bf, .ref bw, .ref bs, .ref bm, .ref bn, .ref bb, .ref bu, .ref bh])), (bl, .inl (cyI, 2, .inl lf)), (ba, .inl (cyI, 32, .inl Af)), (bt, .inl (cyI, 5, .inl tf)), (bg, .inl (cyI, 225, .inl gf)), (be, .inl (cyI, 225, .inl ef)), (bf, .inl (cyI, 225, .inl ff)), (bw, .inl (cyI, 160, .inl u7.2.2.1)), (bs, .inl (cyI, 5, .inl u7.2.2.2.1)), (bm, .inl (cyI, 5, .inl u7.2.2.2.2.1)), (bn, .inl (cyI, 5, .inl u7.2.2.2.2.2.1)), (bb, .inl (cyI, 5, .inl u7.2.2.2.2.2.2.1)), (bu, .inl (cyJ, 5, .inr (.inl u7.2.2.2.2.2.2.2))), (bh, .inl (cyI, 15, .inl u7.2.1)), (aL, .inl (cyJ, 1, .inr (.inl oF))), (aD, .inl (cyD, 1, .inr (.inr (.inr (.inl dF9)))))] H := hP
    rcases h7 with ⟨e7, h7⟩ | ⟨e7, h7⟩
    · skip
      obtain ⟨xN, h1, h2, h3⟩ := h7
      exact absurd ((zin_iff (n := 3) (by decide)).mpr ⟨xN, h1, h2⟩) hw
    · skip
      have e7 : u7.1 = 1 := e7
      rw [e7] at hP
      have hP : va_P (dC, dI) vwCl [(ax, .inr (2, [.ref a0, .ref a1, .ref ae, .ref aw, .int (nI k), .int (nI tn), .int mk, .int wn, .int cnt])), (ao, .inr (1, [.long (lN own), .int lo])), (aq, .inr (1, [.long (lN oth), .int lq])), (ae, .inr (0, [.ref at_, .int (nI kk)])), (at_, .inl (cyI, 13500, .inl wf)), (aw, .inl (cyI, 15, .inl wb)), (bx, .inr (3, [.int 1, .int (nI k), .int (nI tn), .int mk, .int wn, .int cnt, .ref bl, .ref ba, .ref bt, .ref bg, .ref be, .ref bf, .ref bw, .ref bs, .ref bm, .ref bn, .ref bb, .ref bu, .ref bh])), (bl, .inl (cyI, 2, .inl lf)), (ba, .inl (cyI, 32, .inl Af)), (bt, .inl (cyI, 5, .inl tf)), (bg, .inl (cyI, 225, .inl gf)), (be, .inl (cyI, 225, .inl ef)), (bf, .inl (cyI, 225, .inl ff)), (bw, .inl (cyI, 160, .inl u7.2.2.1)), (bs, .inl (cyI, 5, .inl u7.2.2.2.1)), (bm, .inl (cyI, 5, .inl u7.2.2.2.2.1)), (bn, .inl (cyI, 5, .inl u7.2.2.2.2.2.1)), (bb, .inl (cyI, 5, .inl u7.2.2.2.2.2.2.1)), (bu, .inl (cyJ, 5, .inr (.inl u7.2.2.2.2.2.2.2))), (bh, .inl (cyI, 15, .inl u7.2.1)), (aL, .inl (cyJ, 1, .inr (.inl oF))), (aD, .inl (cyD, 1, .inr (.inr (.inr (.inl dF9)))))] H := hP
      refine lv_dstore (lv' := [(7, .double r7), (6, .int 1), (5, .int (nI (4 * j))), (4, .ref aD), (3, .ref aL), (2, .ref bx), (1, .ref ax), (0, .ref b)]) hx hb dL_law_693 hl (by decide) rfl (fun ls hl => ?_)
      refine lv_aload_n hx hb dL_law_695 rfl (lv_at hl 5 rfl) ?_
      refine zro_i (va_runV (As := []) (rest := []) ⟨hx, hb, hml, hown, hts⟩ (c_X6_thrown l dC dI cyI cyJ (nI k) bx bl ba bt bg be bf bw bs bm bn bb bu bh 1 (nI tn) mk wn cnt) (cwV 0 hts gL_law_X6_thrown rfl rfl rfl (by decide +kernel) ⟨Nat.le_of_ble_eq_true rfl, Nat.le_of_ble_eq_true rfl⟩) (zPc_V (ci := 3) (q0 := 6) zB_T hP hK rfl rfl [6] rfl (fun _ _ _ => trivial)) rfl rfl hl.1 rfl (lv_room (Nat.le_of_ble_eq_true rfl)) dL_law_696 ⟨by show 22 + 4 * (j + 1) + 0 ≤ 601024; omega, by show 14465 + 24 * (j + 1) + 0 ≤ 7293034; omega⟩) hP hS (fun H locs hP hS => ?_)
      refine lv_iload hx hb dL_law_699 (lv_at hl 1 rfl) ?_
      refine lv_icmp_eq (tgt := 706) hx hb dL_law_701 (by decide) (fun _ => ?_) (fun c9 => absurd c9 (by decide))
      refine lv_iload hx hb dL_law_706 (lv_at hl 1 rfl) ?_
      refine lv_if_ne (tgt := 743) hx hb dL_law_708 (by decide) (fun _ => ?_) (fun c9 => absurd c9 (by decide))
      refine lv_goto (tgt := 974) hx hb dL_law_743 (by decide) ?_
      refine K _ _ _ ⟨k, tn, own, oth, mm, kk, ao, aq, mk, wn, cnt, lo, lq, 1, wf, wb, Af, lf, u7.2.1, tf, gf, ef, ff, u7.2.2, oF, dF9, ⟨hk1, hsd, hO, hQ, hkk, htb, hmk, hmm, hwn, hhas, hrow, hl1, hl2, htf, hff⟩, hP⟩ hS (lv_sub hl [2, 3, 4, 5, 6, 7] rfl)

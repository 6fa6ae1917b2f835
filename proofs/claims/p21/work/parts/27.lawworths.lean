/-! the law holds the class's worths against its own -/
theorem zm1 {x : Nat} (h : x ≤ 1000000000) : (-1 : Int32) ≤ nI x := by
  rw [Int32.le_iff_toInt_le, nI_toInt (by omega)]
  show (-1 : Int) ≤ _
  omega
set_option maxHeartbeats 4000000 in
set_option maxRecDepth 100000 in
theorem c_L_worths (l : Launch) (dC : Nat → ClassId) (dI : Nat → Nat → Nat) (cyI cyJ : ClassId) (tb ax a0 a1 ae aw at_ ao aq rx ry rz rq ru : Nat) (mk wn cnt lo lq : Int32) (wf wb F G Z Qf Wf : Nat → Int32) (k kk tn own oth mm d : Nat) (hsd : zSd tn a0 a1 ao aq) (hO : zok k own) (hQ : zok k oth) (hg : zgd own oth) (hr9 : zRow F 0 tn own oth) (hk1 : 1 ≤ k) (hkk : kk ≤ 60) (htb : zTb kk wf) (hmk : zmk mk mm) (hmm : mm ≤ 4) (hwn : zwn wn) (hmw : mk = -1 ∨ wn = -1) (hhas : ¬ mk = -1 → zHas own oth mm 15 = true) (hq : zQ Qf k tn mk wn cnt lo lq) (hd : d ≤ 1) (hnd : [ax, ao, aq, ae, at_, aw, rx, ry, rz, rq, ru].Nodup) : Met l yL_worths wsL_worths ({ frames := 80, cells := 0, slots := 0, locals := 1700 }) (zPc [.ref ax, .int (nI d), .ref rx, .ref ry, .ref rz, .ref rq, .ref ru] (dC, dI) vwCl [(cyI, .int)] [(ax, .inr (2, [.ref a0, .ref a1, .ref ae, .ref aw, .int (nI k), .int (nI tn), .int mk, .int wn, .int cnt])), (ao, .inr (1, [.long (lN own), .int lo])), (aq, .inr (1, [.long (lN oth), .int lq])), (ae, .inr (0, [.ref at_, .int (nI kk)])), (at_, .inl (cyI, 13500, .inl wf)), (aw, .inl (cyI, 15, .inl wb)), (rx, .inl (cyI, 32, .inl F)), (ry, .inl (cyI, 32, .inl G)), (rz, .inl (cyI, 32, .inl Z)), (rq, .inl (cyI, 7, .inl Qf)), (ru, .inl (cyI, 15, .inl Wf))] (fun U => zX tb (zA [ax, ao, aq, ae, at_, aw, rx, ry, rz, rq, ru]) U U.heap)) (va_Qi (fun (r : Int32) (u : Nat × (Nat → Int32) × (Nat → Int32) × (Nat → Int32) × (Nat → Int32) × (Nat → Int32)) => r = 1 ∧ zTb u.1 u.2.1 ∧ u.1 ≤ 60) (fun (u : Nat × (Nat → Int32) × (Nat → Int32) × (Nat → Int32) × (Nat → Int32) × (Nat → Int32)) t => va_P (dC, dI) vwCl ([(ax, .inr (2, [.ref a0, .ref a1, .ref ae, .ref aw, .int (nI k), .int (nI tn), .int mk, .int wn, .int cnt])), (ao, .inr (1, [.long (lN own), .int lo])), (aq, .inr (1, [.long (lN oth), .int lq])), (ae, .inr (0, [.ref at_, .int (nI u.1)])), (at_, .inl (cyI, 13500, .inl u.2.1)), (aw, .inl (cyI, 15, .inl u.2.2.1)), (rx, .inl (cyI, 32, .inl F)), (ry, .inl (cyI, 32, .inl u.2.2.2.1)), (rz, .inl (cyI, 32, .inl u.2.2.2.2.1)), (rq, .inl (cyI, 7, .inl Qf)), (ru, .inl (cyI, 15, .inl u.2.2.2.2.2))]) t.heap) (zA [ax, ao, aq, ae, at_, aw, rx, ry, rz, rq, ru])) 0 0 (zA [ax, ao, aq, ae, at_, aw, rx, ry, rz, rq, ru]) := by
  refine Met.ofW (cc := cL_worths) (maxL := 13) (ret := (some .boolean)) (by decide) rfl ?_
  intro p e s m args below meth c s₁ B hml hv
  obtain ⟨rfl, hP, hK, hX⟩ := hv
  have hx := B.exec
  have hb := B.bytes
  have hr := B.returns
  have hts := atoms_spec (ws := wsL_worths) B.pre
  have hown : s.vm.findClass RL = some m.cls := findClass_of_methodNamed B.named
  have hlocks := B.notSynchronized
  have hl := lv_entry ([.ref ax, .int (nI d), .ref rx, .ref ry, .ref rz, .ref rq, .ref ru]) (n := 13) (Nat.le_of_ble_eq_true rfl)
  rw [lg_entry_eq]
  generalize (lg_sl ([.ref ax, .int (nI d), .ref rx, .ref ry, .ref rz, .ref rq, .ref ru]) ++ List.replicate (13 - (lg_sl ([.ref ax, .int (nI d), .ref rx, .ref ry, .ref rz, .ref rq, .ref ru])).length) Slot.unset).toArray = ls at hl ⊢
  have hl : lv_has ls 13 [(0, .ref ax), (1, .int (nI d)), (2, .ref rx), (3, .ref ry), (4, .ref rz), (5, .ref rq), (6, .ref ru)] := hl
  have hS : va_S (zA [ax, ao, aq, ae, at_, aw, rx, ry, rz, rq, ru]) s.heap s.heap [] := va_S.rf
  have hDD : zD (zA [ax, ao, aq, ae, at_, aw, rx, ry, rz, rq, ru]) [ax, ao, aq, ae, at_, aw, rx, ry, rz, rq, ru] := ⟨hnd, fun _ h => h⟩
  generalize hQe : MQ below _ _ _ _ _ _ = Q
  have htn := zSd_le hsd
  have hk5 := hO.1
  have lw82 : ∀ (n9 : Nat) (i : Nat) (x : Nat) (cv : Nat) (kk1 : Nat) (w1 : Nat → Int32) (g1 : Nat → Int32) (z1 : Nat → Int32) (v : Nat → Int32), i ≤ 15 → x ≤ 1000000000 → (mk = -1 → nI x = zWT k tn wn mk mm d own oth) → (¬ mk = -1 → x = zBst (fun fr => zBM (zV k d) own oth fr mm) own oth mm i) → cv = zNum own oth mm i → (∀ j, j < i → v j = zWB k d own oth mm j) → kk1 ≤ 60 → zTb kk1 w1 → 15 - i < n9 → ∀ (H : Heap) (locs : List Loc), va_P (dC, dI) vwCl [(ax, .inr (2, [.ref a0, .ref a1, .ref ae, .ref aw, .int (nI k), .int (nI tn), .int mk, .int wn, .int cnt])), (ao, .inr (1, [.long (lN own), .int lo])), (aq, .inr (1, [.long (lN oth), .int lq])), (ae, .inr (0, [.ref at_, .int (nI kk1)])), (at_, .inl (cyI, 13500, .inl w1)), (aw, .inl (cyI, 15, .inl wb)), (rx, .inl (cyI, 32, .inl F)), (ry, .inl (cyI, 32, .inl g1)), (rz, .inl (cyI, 32, .inl z1)), (rq, .inl (cyI, 7, .inl Qf)), (ru, .inl (cyI, 15, .inl v))] H → va_S (zA [ax, ao, aq, ae, at_, aw, rx, ry, rz, rq, ru]) s.heap H locs → ∀ ls : Array Slot, lv_has ls 13 [(9, .int (nI i)), (8, .int (nI cv)), (7, .int (nI x)), (0, .ref ax), (1, .int (nI d)), (2, .ref rx), (3, .ref ry), (4, .ref rz), (5, .ref rq), (6, .ref ru)] → W p l e (headSpec wsL_worths ({ frames := 80, cells := 0, slots := 0, locals := 1700 })).room s m ([.ref ax, .int (nI d), .ref rx, .ref ry, .ref rz, .ref rq, .ref ru] : List Value).toArray below meth c H locs 0 0 Q (F0 m 82 ls []) := by
    intro n9
    induction n9 with
    | zero => intro i x cv kk1 w1 g1 z1 v hi2 hx9 hA hB hcv hv hk3 ht3 hm9; exact absurd hm9 (Nat.not_lt_zero _)
    | succ n9 ih82 =>
      intro i x cv kk1 w1 g1 z1 v hi2 hx9 hA hB hcv hv hk3 ht3 hm9 H locs hP hS ls hl
      have hbl := zBM_le (zV_le k d) own oth i mm
      refine lv_iload hx hb dL_worths_82 (lv_at hl 0 rfl) ?_
      refine lv_bipush (v := 15) hx hb dL_worths_84 (by decide) ?_
      refine lv_icmp_ge (tgt := 181) hx hb dL_worths_86 (by decide) (fun c_86 => ?_) (fun c_86 => ?_)
      · skip
        have c_86 : 15 ≤ i := (nI_leI (a := 15) (b := i) (by omega) (by omega)).mp c_86
        obtain rfl : i = 15 := by omega
        have hx5 : nI x = zWT k tn wn mk mm d own oth := by
          by_cases hm : mk = -1
          · exact hA hm
          · rw [zWT, if_pos (hmw.resolve_left hm), if_neg hm, zBT, if_pos (hhas hm), ← hB hm]
        obtain rfl := hcv
        have hnl := zNum_le own oth mm 15
        refine lv_aload_n hx hb dL_worths_181 rfl (lv_at hl 3 rfl) ?_
        refine lv_iload_n hx hb dL_worths_182 rfl (lv_at hl 4 rfl) ?_
        refine zrw_i (w1 := fun u : Nat × (Nat → Int32) => [(ax, .inr (2, [.ref a0, .ref a1, .ref ae, .ref aw, .int (nI k), .int (nI tn), .int mk, .int wn, .int cnt])), (ao, .inr (1, [.long (lN own), .int lo])), (aq, .inr (1, [.long (lN oth), .int lq])), (ae, .inr (0, [.ref at_, .int (nI u.1)])), (at_, .inl (cyI, 13500, .inl u.2))]) (al := [ax, ao, aq, ae, at_]) (va_runV (As := [.int (nI d)]) (rest := []) ⟨hx, hb, hml, hown, hts⟩ (c_X5_worth_ok l dC dI cyI cyJ tb ax a0 a1 ae aw at_ ao aq mk wn cnt lo lq w1 k kk1 tn own oth mm hsd hO hQ hk1 hk3 ht3 hmk hmm d (by omega) (z_nd hDD.1 [0, 1, 2, 3, 4] (by decide) rfl)) (cwV 1 hts gL_worths_X5_worth rfl rfl rfl (by decide +kernel) ⟨(show 30 + 1 ≤ 80 by omega), (show 8 + (3 + 11) + 700 ≤ 1700 by omega)⟩) (zPc_V (ci := 2) (q0 := 0) zB_X hP hK rfl rfl [0, 1, 2, 3, 4] rfl (zX_at hX hS (zA_pl (al := [ax, ao, aq, ae, at_, aw, rx, ry, rz, rq, ru]) (bl := [ax, ao, aq, ae, at_]) [0, 1, 2, 3, 4] rfl))) rfl rfl hl.1 rfl (lv_room (Nat.le_of_ble_eq_true rfl)) dL_worths_183 ⟨Nat.zero_le _, Nat.zero_le _⟩) hP hDD hS [0, 1, 2, 3, 4] rfl (fun _ => rfl) (fun r_183 u_183 H locs hw_183 hP hS => ?_)
        have hP : va_P (dC, dI) vwCl [(ax, .inr (2, [.ref a0, .ref a1, .ref ae, .ref aw, .int (nI k), .int (nI tn), .int mk, .int wn, .int cnt])), (ao, .inr (1, [.long (lN own), .int lo])), (aq, .inr (1, [.long (lN oth), .int lq])), (ae, .inr (0, [.ref at_, .int (nI u_183.1)])), (at_, .inl (cyI, 13500, .inl u_183.2)), (aw, .inl (cyI, 15, .inl wb)), (rx, .inl (cyI, 32, .inl F)), (ry, .inl (cyI, 32, .inl g1)), (rz, .inl (cyI, 32, .inl z1)), (rq, .inl (cyI, 7, .inl Qf)), (ru, .inl (cyI, 15, .inl v))] H := hP
        have k206 : ∀ (H : Heap) (locs : List Loc), va_P (dC, dI) vwCl [(ax, .inr (2, [.ref a0, .ref a1, .ref ae, .ref aw, .int (nI k), .int (nI tn), .int mk, .int wn, .int cnt])), (ao, .inr (1, [.long (lN own), .int lo])), (aq, .inr (1, [.long (lN oth), .int lq])), (ae, .inr (0, [.ref at_, .int (nI u_183.1)])), (at_, .inl (cyI, 13500, .inl u_183.2)), (aw, .inl (cyI, 15, .inl wb)), (rx, .inl (cyI, 32, .inl F)), (ry, .inl (cyI, 32, .inl g1)), (rz, .inl (cyI, 32, .inl z1)), (rq, .inl (cyI, 7, .inl Qf)), (ru, .inl (cyI, 15, .inl v))] H → va_S (zA [ax, ao, aq, ae, at_, aw, rx, ry, rz, rq, ru]) s.heap H locs → ∀ ls : Array Slot, lv_has ls 13 [(9, .int (nI 15)), (8, .int (nI (zNum own oth mm 15))), (7, .int (nI x)), (0, .ref ax), (1, .int (nI d)), (2, .ref rx), (3, .ref ry), (4, .ref rz), (5, .ref rq), (6, .ref ru)] → W p l e (headSpec wsL_worths ({ frames := 80, cells := 0, slots := 0, locals := 1700 })).room s m ([.ref ax, .int (nI d), .ref rx, .ref ry, .ref rz, .ref rq, .ref ru] : List Value).toArray below meth c H locs 0 0 Q (F0 m 206 ls []) := by
          intro H locs hP hS ls hl
          refine lv_aload_n hx hb dL_worths_206 rfl (lv_at hl 3 rfl) ?_
          refine lv_iload_n hx hb dL_worths_207 rfl (lv_at hl 4 rfl) ?_
          refine zrw_d (w1 := fun u : Nat × (Nat → Int32) => [(ax, .inr (2, [.ref a0, .ref a1, .ref ae, .ref aw, .int (nI k), .int (nI tn), .int mk, .int wn, .int cnt])), (ao, .inr (1, [.long (lN own), .int lo])), (aq, .inr (1, [.long (lN oth), .int lq])), (ae, .inr (0, [.ref at_, .int (nI u.1)])), (at_, .inl (cyI, 13500, .inl u.2))]) (al := [ax, ao, aq, ae, at_]) (va_runV (As := [.int (nI d)]) (rest := []) ⟨hx, hb, hml, hown, hts⟩ (c_X5_chance_ok l dC dI cyI cyJ tb ax a0 a1 ae aw at_ ao aq mk wn cnt lo lq u_183.2 k u_183.1 tn own oth mm hsd hO hQ hk1 hw_183.2.2 hw_183.2.1 hmk hmm d (by omega) (z_nd hDD.1 [0, 1, 2, 3, 4] (by decide) rfl)) (cwV 1 hts gL_worths_X5_chance rfl rfl rfl (by decide +kernel) ⟨(show 30 + 1 ≤ 80 by omega), (show 8 + (2 + 11) + 700 ≤ 1700 by omega)⟩) (zPc_V (ci := 2) (q0 := 0) zB_X hP hK rfl rfl [0, 1, 2, 3, 4] rfl (zX_at hX hS (zA_pl (al := [ax, ao, aq, ae, at_, aw, rx, ry, rz, rq, ru]) (bl := [ax, ao, aq, ae, at_]) [0, 1, 2, 3, 4] rfl))) rfl rfl hl.1 rfl (lv_room (Nat.le_of_ble_eq_true rfl)) dL_worths_208 ⟨Nat.zero_le _, Nat.zero_le _⟩) hP hDD hS [0, 1, 2, 3, 4] rfl (fun _ => rfl) (fun r_208 u_208 H locs hw_208 hP hS => ?_)
          have hP : va_P (dC, dI) vwCl [(ax, .inr (2, [.ref a0, .ref a1, .ref ae, .ref aw, .int (nI k), .int (nI tn), .int mk, .int wn, .int cnt])), (ao, .inr (1, [.long (lN own), .int lo])), (aq, .inr (1, [.long (lN oth), .int lq])), (ae, .inr (0, [.ref at_, .int (nI u_208.1)])), (at_, .inl (cyI, 13500, .inl u_208.2)), (aw, .inl (cyI, 15, .inl wb)), (rx, .inl (cyI, 32, .inl F)), (ry, .inl (cyI, 32, .inl g1)), (rz, .inl (cyI, 32, .inl z1)), (rq, .inl (cyI, 7, .inl Qf)), (ru, .inl (cyI, 15, .inl v))] H := hP
          refine lv_iload hx hb dL_worths_211 (lv_at hl 2 rfl) ?_
          refine lv_i2d hx hb dL_worths_213 ?_
          refine lv_ldc2d (v := 4741671816366391296) hx hb hown (hts (.constantDouble RL 75 (4741671816366391296)) (List.mem_of_getElem? (i := 2) rfl)) dL_worths_214 ?_
          refine lv_ddiv hx hb dL_worths_217 (zch (nI x)) ?_
          have hdc : FP.dcmp r_208 (FP.ddiv (FP.i2d (nI x)) 4741671816366391296) = some .eq := by rw [hw_208.1, ← hx5]; exact zch_self (nI x)
          refine lv_dcmp hx hb dL_worths_218 ?_
          refine zz_i (y := 0) (by rw [hdc]; rfl) ?_
          refine lv_if_ne (tgt := 226) hx hb dL_worths_219 (by decide) (fun c9 => absurd c9 (by decide)) (fun _ => ?_)
          refine lv_iconst (v := 1) hx hb dL_worths_222 (by decide) ?_
          refine lv_goto (tgt := 227) hx hb dL_worths_223 (by decide) ?_
          refine lv_istore (lv' := [(9, .int 1), (8, .int (nI (zNum own oth mm 15))), (7, .int (nI x)), (0, .ref ax), (1, .int (nI d)), (2, .ref rx), (3, .ref ry), (4, .ref rz), (5, .ref rq), (6, .ref ru)]) hx hb dL_worths_227 hl (by decide) rfl (fun ls hl => ?_)
          refine lv_iconst (v := 0) hx hb dL_worths_229 (by decide) ?_
          refine lv_istore (lv' := [(10, .int 0), (9, .int 1), (8, .int (nI (zNum own oth mm 15))), (7, .int (nI x)), (0, .ref ax), (1, .int (nI d)), (2, .ref rx), (3, .ref ry), (4, .ref rz), (5, .ref rq), (6, .ref ru)]) hx hb dL_worths_230 hl (by decide) rfl (fun ls hl => ?_)
          have lr : ∀ (n9 : Nat) (r : Nat) (kk2 : Nat) (w2 : Nat → Int32) (b2 : Nat → Int32) (v2 : Nat → Int32), r ≤ zNum own oth mm 15 → zRm (zWB k d own oth mm) v2 r → kk2 ≤ 60 → zTb kk2 w2 → zNum own oth mm 15 - r < n9 → ∀ (H : Heap) (locs : List Loc), va_P (dC, dI) vwCl [(ax, .inr (2, [.ref a0, .ref a1, .ref ae, .ref aw, .int (nI k), .int (nI tn), .int mk, .int wn, .int cnt])), (ao, .inr (1, [.long (lN own), .int lo])), (aq, .inr (1, [.long (lN oth), .int lq])), (ae, .inr (0, [.ref at_, .int (nI kk2)])), (at_, .inl (cyI, 13500, .inl w2)), (aw, .inl (cyI, 15, .inl b2)), (rx, .inl (cyI, 32, .inl F)), (ry, .inl (cyI, 32, .inl g1)), (rz, .inl (cyI, 32, .inl z1)), (rq, .inl (cyI, 7, .inl Qf)), (ru, .inl (cyI, 15, .inl v2))] H → va_S (zA [ax, ao, aq, ae, at_, aw, rx, ry, rz, rq, ru]) s.heap H locs → ∀ ls : Array Slot, lv_has ls 13 [(10, .int (nI r)), (9, .int 1), (8, .int (nI (zNum own oth mm 15))), (0, .ref ax), (1, .int (nI d)), (2, .ref rx), (3, .ref ry), (4, .ref rz), (5, .ref rq), (6, .ref ru)] → W p l e (headSpec wsL_worths ({ frames := 80, cells := 0, slots := 0, locals := 1700 })).room s m ([.ref ax, .int (nI d), .ref rx, .ref ry, .ref rz, .ref rq, .ref ru] : List Value).toArray below meth c H locs 0 0 Q (F0 m 232 ls []) := by
            intro n9
            induction n9 with
            | zero => intro r kk2 w2 b2 v2 hr2 hrm hk4 ht4 hm9; exact absurd hm9 (Nat.not_lt_zero _)
            | succ n9 ih232 =>
              intro r kk2 w2 b2 v2 hr2 hrm hk4 ht4 hm9 H locs hP hS ls hl
              refine lv_iload hx hb dL_worths_232 (lv_at hl 0 rfl) ?_
              refine lv_iload hx hb dL_worths_234 (lv_at hl 2 rfl) ?_
              refine lv_icmp_ge (tgt := 316) hx hb dL_worths_236 (by decide) (fun c_236 => ?_) (fun c_236 => ?_)
              · skip
                have c_236 : (zNum own oth mm 15) ≤ r := (nI_leI (a := zNum own oth mm 15) (b := r) (by omega) (by omega)).mp c_236
                refine lv_iload hx hb dL_worths_316 (lv_at hl 1 rfl) ?_
                refine lv_if_eq (tgt := 336) hx hb dL_worths_318 (by decide) (fun c9 => absurd c9 (by decide)) (fun _ => ?_)
                refine lv_aload_n hx hb dL_worths_321 rfl (lv_at hl 3 rfl) ?_
                refine lv_iload_n hx hb dL_worths_322 rfl (lv_at hl 4 rfl) ?_
                refine lv_iload hx hb dL_worths_323 (lv_at hl 2 rfl) ?_
                refine zrw_i (w1 := fun u : Nat × (Nat → Int32) × (Nat → Int32) => [(ax, .inr (2, [.ref a0, .ref a1, .ref ae, .ref aw, .int (nI k), .int (nI tn), .int mk, .int wn, .int cnt])), (ao, .inr (1, [.long (lN own), .int lo])), (aq, .inr (1, [.long (lN oth), .int lq])), (ae, .inr (0, [.ref at_, .int (nI u.1)])), (at_, .inl (cyI, 13500, .inl u.2.1)), (aw, .inl (cyI, 15, .inl u.2.2))]) (al := [ax, ao, aq, ae, at_, aw]) (va_runV (As := [.int (nI d), .int (nI (zNum own oth mm 15))]) (rest := []) ⟨hx, hb, hml, hown, hts⟩ (c_X5_ranked_ok l dC dI cyI cyJ tb ax a0 a1 ae aw at_ ao aq mk wn cnt lo lq w2 b2 k kk2 tn own oth mm hsd hO hQ hk1 hk4 ht4 hmk hmm d (zNum own oth mm 15) (by omega) (by omega) (z_nd hDD.1 [0, 1, 2, 3, 4, 5] (by decide) rfl)) (cwV 2 hts gL_worths_X5_ranked rfl rfl rfl (by decide +kernel) ⟨(show 30 + 1 ≤ 80 by omega), (show 8 + (5 + 11) + 700 ≤ 1700 by omega)⟩) (zPc_V (ci := 2) (q0 := 0) zB_X hP hK rfl rfl [0, 1, 2, 3, 4, 5] rfl (zX_at hX hS (zA_pl (al := [ax, ao, aq, ae, at_, aw, rx, ry, rz, rq, ru]) (bl := [ax, ao, aq, ae, at_, aw]) [0, 1, 2, 3, 4, 5] rfl))) rfl rfl hl.1 rfl (lv_room (Nat.le_of_ble_eq_true rfl)) dL_worths_325 ⟨Nat.zero_le _, Nat.zero_le _⟩) hP hDD hS [0, 1, 2, 3, 4, 5] rfl (fun _ => rfl) (fun r_325 u_325 H locs hw_325 hP hS => ?_)
                have hP : va_P (dC, dI) vwCl [(ax, .inr (2, [.ref a0, .ref a1, .ref ae, .ref aw, .int (nI k), .int (nI tn), .int mk, .int wn, .int cnt])), (ao, .inr (1, [.long (lN own), .int lo])), (aq, .inr (1, [.long (lN oth), .int lq])), (ae, .inr (0, [.ref at_, .int (nI u_325.1)])), (at_, .inl (cyI, 13500, .inl u_325.2.1)), (aw, .inl (cyI, 15, .inl u_325.2.2)), (rx, .inl (cyI, 32, .inl F)), (ry, .inl (cyI, 32, .inl g1)), (rz, .inl (cyI, 32, .inl z1)), (rq, .inl (cyI, 7, .inl Qf)), (ru, .inl (cyI, 15, .inl v2))] H := hP
                refine lv_iconst (v := -1) hx hb dL_worths_328 (by decide) ?_
                refine lv_icmp_ne (tgt := 336) hx hb dL_worths_329 (by decide) (fun c_329 => ?_) (fun c_329 => ?_)
                · skip
                  exact absurd (by rw [hw_325.1, if_neg (Nat.lt_irrefl _)]) c_329
                · skip
                  refine lv_iconst (v := 1) hx hb dL_worths_332 (by decide) ?_
                  refine lv_goto (tgt := 337) hx hb dL_worths_333 (by decide) ?_
                  subst hQe
                  exact W.zret (v := 1) hx hb hr rfl (fun t ht hW => ⟨⟨_, (u_325.1, u_325.2.1, u_325.2.2, g1, z1, v2), rfl, ⟨rfl, hw_325.2.1, hw_325.2.2⟩, zh ht hP⟩, hS.F ht⟩) hS.2.2 dL_worths_337
              · skip
                have c_236 : ¬ (zNum own oth mm 15) ≤ r := fun h9 => c_236 ((nI_leI (a := zNum own oth mm 15) (b := r) (by omega) (by omega)).mpr h9)
                refine lv_iload hx hb dL_worths_239 (lv_at hl 1 rfl) ?_
                refine lv_if_eq (tgt := 316) hx hb dL_worths_241 (by decide) (fun c9 => absurd c9 (by decide)) (fun _ => ?_)
                refine lv_iconst (v := 0) hx hb dL_worths_244 (by decide) ?_
                refine lv_istore (lv' := [(11, .int 0), (10, .int (nI r)), (9, .int 1), (8, .int (nI (zNum own oth mm 15))), (0, .ref ax), (1, .int (nI d)), (2, .ref rx), (3, .ref ry), (4, .ref rz), (5, .ref rq), (6, .ref ru)]) hx hb dL_worths_245 hl (by decide) rfl (fun ls hl => ?_)
                refine lv_iconst (v := 1) hx hb dL_worths_247 (by decide) ?_
                refine lv_istore (lv' := [(12, .int 1), (11, .int 0), (10, .int (nI r)), (9, .int 1), (8, .int (nI (zNum own oth mm 15))), (0, .ref ax), (1, .int (nI d)), (2, .ref rx), (3, .ref ry), (4, .ref rz), (5, .ref rq), (6, .ref ru)]) hx hb dL_worths_248 hl (by decide) rfl (fun ls hl => ?_)
                have lm : ∀ (n9 : Nat) (f : Nat) (bb : Nat), f ≤ 15 → zAm v2 f bb → 15 - f < n9 → ∀ (H : Heap) (locs : List Loc), va_P (dC, dI) vwCl [(ax, .inr (2, [.ref a0, .ref a1, .ref ae, .ref aw, .int (nI k), .int (nI tn), .int mk, .int wn, .int cnt])), (ao, .inr (1, [.long (lN own), .int lo])), (aq, .inr (1, [.long (lN oth), .int lq])), (ae, .inr (0, [.ref at_, .int (nI kk2)])), (at_, .inl (cyI, 13500, .inl w2)), (aw, .inl (cyI, 15, .inl b2)), (rx, .inl (cyI, 32, .inl F)), (ry, .inl (cyI, 32, .inl g1)), (rz, .inl (cyI, 32, .inl z1)), (rq, .inl (cyI, 7, .inl Qf)), (ru, .inl (cyI, 15, .inl v2))] H → va_S (zA [ax, ao, aq, ae, at_, aw, rx, ry, rz, rq, ru]) s.heap H locs → ∀ ls : Array Slot, lv_has ls 13 [(12, .int (nI f)), (11, .int (nI bb)), (10, .int (nI r)), (9, .int 1), (8, .int (nI (zNum own oth mm 15))), (0, .ref ax), (1, .int (nI d)), (2, .ref rx), (3, .ref ry), (4, .ref rz), (5, .ref rq), (6, .ref ru)] → W p l e (headSpec wsL_worths ({ frames := 80, cells := 0, slots := 0, locals := 1700 })).room s m ([.ref ax, .int (nI d), .ref rx, .ref ry, .ref rz, .ref rq, .ref ru] : List Value).toArray below meth c H locs 0 0 Q (F0 m 250 ls []) := by
                  intro n9
                  induction n9 with
                  | zero => intro f bb hf1 ham hm9; exact absurd hm9 (Nat.not_lt_zero _)
                  | succ n9 ih250 =>
                    intro f bb hf1 ham hm9 H locs hP hS ls hl
                    have hb9 := ham.1
                    refine lv_iload hx hb dL_worths_250 (lv_at hl 0 rfl) ?_
                    refine lv_bipush (v := 15) hx hb dL_worths_252 (by decide) ?_
                    refine lv_icmp_ge (tgt := 285) hx hb dL_worths_254 (by decide) (fun c_254 => ?_) (fun c_254 => ?_)
                    · skip
                      have c_254 : 15 ≤ f := (nI_leI (a := 15) (b := f) (by omega) (by omega)).mp c_254
                      obtain rfl : f = 15 := by omega
                      obtain ⟨hz1, hz2, hz3⟩ := zRm_s hrm (fun p _ => (zWB_ge k d own oth mm p).elim Or.inl (fun h => Or.inr h.2)) (zWB_ct k d own oth mm) (by omega) ham
                      refine lv_aload hx hb dL_worths_285 (lv_at hl 11 rfl) ?_
                      refine lv_iload hx hb dL_worths_287 (lv_at hl 1 rfl) ?_
                      refine lv_iconst (v := -1) hx hb dL_worths_289 (by decide) ?_
                      refine zi_iast hx hb hK hP hDD hS 10 0 rfl rfl (j := bb) rfl (by omega) (by decide) dL_worths_290 (fun H locs hP hS => ?_)
                      have hP : va_P (dC, dI) vwCl [(ax, .inr (2, [.ref a0, .ref a1, .ref ae, .ref aw, .int (nI k), .int (nI tn), .int mk, .int wn, .int cnt])), (ao, .inr (1, [.long (lN own), .int lo])), (aq, .inr (1, [.long (lN oth), .int lq])), (ae, .inr (0, [.ref at_, .int (nI kk2)])), (at_, .inl (cyI, 13500, .inl w2)), (aw, .inl (cyI, 15, .inl b2)), (rx, .inl (cyI, 32, .inl F)), (ry, .inl (cyI, 32, .inl g1)), (rz, .inl (cyI, 32, .inl z1)), (rq, .inl (cyI, 7, .inl Qf)), (ru, .inl (cyI, 15, .inl (upd v2 bb (-1))))] H := hP
                      refine lv_aload_n hx hb dL_worths_291 rfl (lv_at hl 5 rfl) ?_
                      refine lv_iload_n hx hb dL_worths_292 rfl (lv_at hl 6 rfl) ?_
                      refine lv_iload hx hb dL_worths_293 (lv_at hl 2 rfl) ?_
                      refine zrw_i (w1 := fun u : Nat × (Nat → Int32) × (Nat → Int32) => [(ax, .inr (2, [.ref a0, .ref a1, .ref ae, .ref aw, .int (nI k), .int (nI tn), .int mk, .int wn, .int cnt])), (ao, .inr (1, [.long (lN own), .int lo])), (aq, .inr (1, [.long (lN oth), .int lq])), (ae, .inr (0, [.ref at_, .int (nI u.1)])), (at_, .inl (cyI, 13500, .inl u.2.1)), (aw, .inl (cyI, 15, .inl u.2.2))]) (al := [ax, ao, aq, ae, at_, aw]) (va_runV (As := [.int (nI d), .int (nI r)]) (rest := []) ⟨hx, hb, hml, hown, hts⟩ (c_X5_ranked_ok l dC dI cyI cyJ tb ax a0 a1 ae aw at_ ao aq mk wn cnt lo lq w2 b2 k kk2 tn own oth mm hsd hO hQ hk1 hk4 ht4 hmk hmm d r (by omega) (by omega) (z_nd hDD.1 [0, 1, 2, 3, 4, 5] (by decide) rfl)) (cwV 2 hts gL_worths_X5_ranked rfl rfl rfl (by decide +kernel) ⟨(show 30 + 1 ≤ 80 by omega), (show 8 + (5 + 11) + 700 ≤ 1700 by omega)⟩) (zPc_V (ci := 2) (q0 := 0) zB_X hP hK rfl rfl [0, 1, 2, 3, 4, 5] rfl (zX_at hX hS (zA_pl (al := [ax, ao, aq, ae, at_, aw, rx, ry, rz, rq, ru]) (bl := [ax, ao, aq, ae, at_, aw]) [0, 1, 2, 3, 4, 5] rfl))) rfl rfl hl.1 rfl (lv_room (Nat.le_of_ble_eq_true rfl)) dL_worths_295 ⟨Nat.zero_le _, Nat.zero_le _⟩) hP hDD hS [0, 1, 2, 3, 4, 5] rfl (fun _ => rfl) (fun r_295 u_295 H locs hw_295 hP hS => ?_)
                      have hP : va_P (dC, dI) vwCl [(ax, .inr (2, [.ref a0, .ref a1, .ref ae, .ref aw, .int (nI k), .int (nI tn), .int mk, .int wn, .int cnt])), (ao, .inr (1, [.long (lN own), .int lo])), (aq, .inr (1, [.long (lN oth), .int lq])), (ae, .inr (0, [.ref at_, .int (nI u_295.1)])), (at_, .inl (cyI, 13500, .inl u_295.2.1)), (aw, .inl (cyI, 15, .inl u_295.2.2)), (rx, .inl (cyI, 32, .inl F)), (ry, .inl (cyI, 32, .inl g1)), (rz, .inl (cyI, 32, .inl z1)), (rq, .inl (cyI, 7, .inl Qf)), (ru, .inl (cyI, 15, .inl (upd v2 bb (-1))))] H := hP
                      refine lv_iload hx hb dL_worths_298 (lv_at hl 1 rfl) ?_
                      refine lv_icmp_ne (tgt := 307) hx hb dL_worths_300 (by decide) (fun c_300 => ?_) (fun c_300 => ?_)
                      · skip
                        exact absurd (by rw [hw_295.1, if_pos (by omega), zRk_at (by omega) hz1 hz2]) c_300
                      · skip
                        refine lv_iconst (v := 1) hx hb dL_worths_303 (by decide) ?_
                        refine lv_goto (tgt := 308) hx hb dL_worths_304 (by decide) ?_
                        refine lv_istore (lv' := [(9, .int 1), (12, .int (nI 15)), (11, .int (nI bb)), (10, .int (nI r)), (8, .int (nI (zNum own oth mm 15))), (0, .ref ax), (1, .int (nI d)), (2, .ref rx), (3, .ref ry), (4, .ref rz), (5, .ref rq), (6, .ref ru)]) hx hb dL_worths_308 hl (by decide) rfl (fun ls hl => ?_)
                        refine lv_iinc (v := nI (r + 1)) (lv' := [(10, .int (nI (r + 1))), (9, .int 1), (12, .int (nI 15)), (11, .int (nI bb)), (8, .int (nI (zNum own oth mm 15))), (0, .ref ax), (1, .int (nI d)), (2, .ref rx), (3, .ref ry), (4, .ref rz), (5, .ref rq), (6, .ref ru)]) hx hb dL_worths_310 hl (k := 3) rfl (nI_1 r) (by decide) rfl (fun ls hl => ?_)
                        refine lv_goto (tgt := 232) hx hb dL_worths_313 (by decide) ?_
                        exact ih232 (r + 1) _ _ _ _ (by omega) hz3 hw_295.2.2 hw_295.2.1 (by omega) _ _ hP hS _ (lv_sub hl [0, 1, 4, 5, 6, 7, 8, 9, 10, 11] rfl)
                    · skip
                      have c_254 : ¬ 15 ≤ f := fun h9 => c_254 ((nI_leI (a := 15) (b := f) (by omega) (by omega)).mpr h9)
                      refine lv_aload hx hb dL_worths_257 (lv_at hl 11 rfl) ?_
                      refine lv_iload hx hb dL_worths_259 (lv_at hl 0 rfl) ?_
                      refine zi_iald hx hb hK hP 10 0 rfl rfl (j := f) rfl (by omega) (by decide) dL_worths_261 ?_
                      refine lv_aload hx hb dL_worths_262 (lv_at hl 11 rfl) ?_
                      refine lv_iload hx hb dL_worths_264 (lv_at hl 1 rfl) ?_
                      refine zi_iald hx hb hK hP 10 0 rfl rfl (j := bb) rfl (by omega) (by decide) dL_worths_266 ?_
                      refine lv_icmp_le (tgt := 275) hx hb dL_worths_267 (by decide) (fun c_267 => ?_) (fun c_267 => ?_)
                      · skip
                        refine lv_iload hx hb dL_worths_275 (lv_at hl 1 rfl) ?_
                        refine lv_istore (lv' := [(11, .int (nI bb)), (12, .int (nI f)), (10, .int (nI r)), (9, .int 1), (8, .int (nI (zNum own oth mm 15))), (0, .ref ax), (1, .int (nI d)), (2, .ref rx), (3, .ref ry), (4, .ref rz), (5, .ref rq), (6, .ref ru)]) hx hb dL_worths_277 hl (by decide) rfl (fun ls hl => ?_)
                        refine lv_iinc (v := nI (f + 1)) (lv' := [(12, .int (nI (f + 1))), (11, .int (nI bb)), (10, .int (nI r)), (9, .int 1), (8, .int (nI (zNum own oth mm 15))), (0, .ref ax), (1, .int (nI d)), (2, .ref rx), (3, .ref ry), (4, .ref rz), (5, .ref rq), (6, .ref ru)]) hx hb dL_worths_279 hl (k := 1) rfl (nI_1 f) (by decide) rfl (fun ls hl => ?_)
                        refine lv_goto (tgt := 250) hx hb dL_worths_282 (by decide) ?_
                        exact ih250 (f + 1) _ (by omega) (zAm_n ham (Int32.not_lt.mpr c_267)) (by omega) _ _ hP hS _ (lv_sub hl [0, 1, 2, 3, 4, 5, 6, 7, 8, 9, 10, 11] rfl)
                      · skip
                        refine lv_iload hx hb dL_worths_270 (lv_at hl 0 rfl) ?_
                        refine lv_goto (tgt := 277) hx hb dL_worths_272 (by decide) ?_
                        refine lv_istore (lv' := [(11, .int (nI f)), (12, .int (nI f)), (10, .int (nI r)), (9, .int 1), (8, .int (nI (zNum own oth mm 15))), (0, .ref ax), (1, .int (nI d)), (2, .ref rx), (3, .ref ry), (4, .ref rz), (5, .ref rq), (6, .ref ru)]) hx hb dL_worths_277 hl (by decide) rfl (fun ls hl => ?_)
                        refine lv_iinc (v := nI (f + 1)) (lv' := [(12, .int (nI (f + 1))), (11, .int (nI f)), (10, .int (nI r)), (9, .int 1), (8, .int (nI (zNum own oth mm 15))), (0, .ref ax), (1, .int (nI d)), (2, .ref rx), (3, .ref ry), (4, .ref rz), (5, .ref rq), (6, .ref ru)]) hx hb dL_worths_279 hl (k := 1) rfl (nI_1 f) (by decide) rfl (fun ls hl => ?_)
                        refine lv_goto (tgt := 250) hx hb dL_worths_282 (by decide) ?_
                        exact ih250 (f + 1) _ (by omega) (zAm_y ham (Int32.not_le.mp c_267)) (by omega) _ _ hP hS _ (lv_sub hl [0, 1, 2, 3, 4, 5, 6, 7, 8, 9, 10, 11] rfl)
                exact lm 16 1 0 (by omega) (zAm_1 v2) (by omega) _ _ hP hS _ (lv_sub hl [0, 1, 2, 3, 4, 5, 6, 7, 8, 9, 10, 11] rfl)
          exact lr 16 0 u_208.1 u_208.2 wb v (Nat.zero_le _) (zRm_0 hv) hw_208.2.2 hw_208.2.1 (by omega) _ _ hP hS _ (lv_sub hl [0, 1, 2, 4, 5, 6, 7, 8, 9, 10] rfl)
        refine lv_aload hx hb dL_worths_186 (lv_at hl 8 rfl) ?_
        refine lv_iconst (v := 1) hx hb dL_worths_188 (by decide) ?_
        refine zi_iald hx hb hK hP 9 0 rfl rfl (j := 1) rfl (by omega) (by decide) dL_worths_189 ?_
        refine zz_i (y := nI tn) hq.2.1 ?_
        refine lv_if_ne (tgt := 198) hx hb dL_worths_190 (by decide) (fun c_190 => ?_) (fun c_190 => ?_)
        · skip
          have c_190 : ¬ tn = 0 := fun h9 => c_190 ((nI_eq (a := tn) (b := 0) (by omega) (by omega)).mpr h9)
          refine lv_ldc (v := 1000000000) hx hb hown (hts (.constant RL 53 (1000000000)) (List.mem_of_getElem? (i := 1) rfl)) dL_worths_198 ?_
          refine lv_iload hx hb dL_worths_200 (lv_at hl 2 rfl) ?_
          refine lv_isub hx hb dL_worths_202 ?_
          refine zz_i (y := nI (1000000000 - x)) (pk_sub (a := 1000000000) (b := x) (by omega)) ?_
          refine lv_icmp_ne (tgt := 226) hx hb dL_worths_203 (by decide) (fun c_203 => ?_) (fun c_203 => ?_)
          · skip
            exact absurd (by rw [hw_183.1, if_neg c_190, ← hx5]; exact zisub hx9) c_203
          · skip
            exact k206 _ _ hP hS _ (lv_sub hl [0, 1, 2, 3, 4, 5, 6, 7, 8, 9] rfl)
        · skip
          have c_190 : tn = 0 := (nI_eq (a := tn) (b := 0) (by omega) (by omega)).mp c_190
          refine lv_iload hx hb dL_worths_193 (lv_at hl 2 rfl) ?_
          refine lv_goto (tgt := 203) hx hb dL_worths_195 (by decide) ?_
          refine lv_icmp_ne (tgt := 226) hx hb dL_worths_203 (by decide) (fun c_203 => ?_) (fun c_203 => ?_)
          · skip
            exact absurd (by rw [hw_183.1, if_pos c_190, ← hx5]) c_203
          · skip
            exact k206 _ _ hP hS _ (lv_sub hl [0, 1, 2, 3, 4, 5, 6, 7, 8, 9] rfl)
      · skip
        have c_86 : ¬ 15 ≤ i := fun h9 => c_86 ((nI_leI (a := 15) (b := i) (by omega) (by omega)).mpr h9)
        refine lv_aload hx hb dL_worths_89 (lv_at hl 9 rfl) ?_
        refine lv_iload hx hb dL_worths_91 (lv_at hl 0 rfl) ?_
        refine lv_aload hx hb dL_worths_93 (lv_at hl 8 rfl) ?_
        refine lv_iconst (v := 2) hx hb dL_worths_95 (by decide) ?_
        refine zi_iald hx hb hK hP 9 0 rfl rfl (j := 2) rfl (by omega) (by decide) dL_worths_96 ?_
        refine zz_i (y := mk) hq.2.2.1 ?_
        refine lv_if_lt (tgt := 133) hx hb dL_worths_97 (by decide) (fun c_97 => ?_) (fun c_97 => ?_)
        · skip
          have c_97 : mk = -1 := (zmk_neg hmk hmm).mp c_97
          refine lv_iconst (v := -1) hx hb dL_worths_133 (by decide) ?_
          refine zi_iast hx hb hK hP hDD hS 10 0 rfl rfl (j := i) rfl (by omega) (by decide) dL_worths_134 (fun H locs hP hS => ?_)
          have hP : va_P (dC, dI) vwCl [(ax, .inr (2, [.ref a0, .ref a1, .ref ae, .ref aw, .int (nI k), .int (nI tn), .int mk, .int wn, .int cnt])), (ao, .inr (1, [.long (lN own), .int lo])), (aq, .inr (1, [.long (lN oth), .int lq])), (ae, .inr (0, [.ref at_, .int (nI kk1)])), (at_, .inl (cyI, 13500, .inl w1)), (aw, .inl (cyI, 15, .inl wb)), (rx, .inl (cyI, 32, .inl F)), (ry, .inl (cyI, 32, .inl g1)), (rz, .inl (cyI, 32, .inl z1)), (rq, .inl (cyI, 7, .inl Qf)), (ru, .inl (cyI, 15, .inl (upd v i (-1))))] H := hP
          refine lv_aload hx hb dL_worths_135 (lv_at hl 9 rfl) ?_
          refine lv_iload hx hb dL_worths_137 (lv_at hl 0 rfl) ?_
          refine zi_iald hx hb hK hP 10 0 rfl rfl (j := i) rfl (by omega) (by decide) dL_worths_139 ?_
          refine zz_i (y := -1) pk_us ?_
          refine lv_iload hx hb dL_worths_140 (lv_at hl 2 rfl) ?_
          refine lv_icmp_le (tgt := 153) hx hb dL_worths_142 (by decide) (fun c_142 => ?_) (fun c_142 => ?_)
          · skip
            refine lv_iload hx hb dL_worths_153 (lv_at hl 2 rfl) ?_
            refine lv_istore (lv' := [(7, .int (nI x)), (9, .int (nI i)), (8, .int (nI cv)), (0, .ref ax), (1, .int (nI d)), (2, .ref rx), (3, .ref ry), (4, .ref rz), (5, .ref rq), (6, .ref ru)]) hx hb dL_worths_155 hl (by decide) rfl (fun ls hl => ?_)
            refine lv_iload hx hb dL_worths_157 (lv_at hl 2 rfl) ?_
            refine lv_aload hx hb dL_worths_159 (lv_at hl 9 rfl) ?_
            refine lv_iload hx hb dL_worths_161 (lv_at hl 1 rfl) ?_
            refine zi_iald hx hb hK hP 10 0 rfl rfl (j := i) rfl (by omega) (by decide) dL_worths_163 ?_
            refine zz_i (y := -1) pk_us ?_
            refine lv_if_ge (tgt := 171) hx hb dL_worths_164 (by decide) (fun c9 => absurd c9 (by decide)) (fun _ => ?_)
            refine lv_iconst (v := 0) hx hb dL_worths_167 (by decide) ?_
            refine lv_goto (tgt := 172) hx hb dL_worths_168 (by decide) ?_
            refine lv_iadd hx hb dL_worths_172 ?_
            refine zz_i (y := nI (cv + 0)) (nI_add cv 0) ?_
            refine lv_istore (lv' := [(8, .int (nI (cv + 0))), (7, .int (nI x)), (9, .int (nI i)), (0, .ref ax), (1, .int (nI d)), (2, .ref rx), (3, .ref ry), (4, .ref rz), (5, .ref rq), (6, .ref ru)]) hx hb dL_worths_173 hl (by decide) rfl (fun ls hl => ?_)
            refine lv_iinc (v := nI (i + 1)) (lv' := [(9, .int (nI (i + 1))), (8, .int (nI (cv + 0))), (7, .int (nI x)), (0, .ref ax), (1, .int (nI d)), (2, .ref rx), (3, .ref ry), (4, .ref rz), (5, .ref rq), (6, .ref ru)]) hx hb dL_worths_175 hl (k := 2) rfl (nI_1 i) (by decide) rfl (fun ls hl => ?_)
            refine lv_goto (tgt := 82) hx hb dL_worths_178 (by decide) ?_
            exact ih82 (i + 1) _ _ _ _ _ _ _ (by omega) hx9 hA (fun h => absurd c_97 h) (by rw [zNum_s, if_neg (by rw [zmk_0 hmk hmm c_97, zcm_0]; decide), hcv]) (zWB_n hv (by rw [zmk_0 hmk hmm c_97]; exact zcm_0 _ _ _)) hk3 ht3 (by omega) _ _ hP hS _ (lv_sub hl [0, 1, 2, 3, 4, 5, 6, 7, 8, 9] rfl)
          · skip
            exact absurd (zm1 hx9) c_142
        · skip
          have c_97 : ¬ mk = -1 := fun h9 => c_97 ((zmk_neg hmk hmm).mpr h9)
          refine lv_aload_n hx hb dL_worths_100 rfl (lv_at hl 5 rfl) ?_
          refine lv_aload hx hb dL_worths_101 (lv_at hl 8 rfl) ?_
          refine lv_iconst (v := 1) hx hb dL_worths_103 (by decide) ?_
          refine zi_iald hx hb hK hP 9 0 rfl rfl (j := 1) rfl (by omega) (by decide) dL_worths_104 ?_
          refine zz_i (y := nI tn) hq.2.1 ?_
          refine lv_iload hx hb dL_worths_105 (lv_at hl 0 rfl) ?_
          refine lv_aload hx hb dL_worths_107 (lv_at hl 8 rfl) ?_
          refine lv_iconst (v := 2) hx hb dL_worths_109 (by decide) ?_
          refine zi_iald hx hb hK hP 9 0 rfl rfl (j := 2) rfl (by omega) (by decide) dL_worths_110 ?_
          refine zz_i (y := nI mm) (hq.2.2.1.trans (zmk_ne hmk c_97)) ?_
          refine zro_i (va_runS (As := [.ref rx, .int (nI tn), .int (nI i), .int (nI mm)]) (rest := [.int (nI i), .ref ru]) ⟨hx, hb, hml, hown, hts⟩ (c_L_can l dC dI cyI cyJ rx F tn own oth (by omega) hr9 i mm (by omega) (by omega)) (va_cwS 4 hts gL_worths_L_can rfl rfl rfl (by decide +kernel) ⟨(show 0 + 1 ≤ 80 by omega), (show 8 + (6 + 11) + 0 ≤ 1700 by omega)⟩) (zPc_S zB_T hP hK [6] rfl (fun _ _ _ => trivial)) rfl rfl hl.1 rfl (lv_room (Nat.le_of_ble_eq_true rfl)) dL_worths_111 ⟨Nat.zero_le _, Nat.zero_le _⟩) hP hS (fun H locs hP hS => ?_)
          refine lv_if_eq (tgt := 133) hx hb dL_worths_114 (by decide) (fun c_114 => ?_) (fun c_114 => ?_)
          · skip
            have c_114 := bI_0.mp c_114
            refine lv_iconst (v := -1) hx hb dL_worths_133 (by decide) ?_
            refine zi_iast hx hb hK hP hDD hS 10 0 rfl rfl (j := i) rfl (by omega) (by decide) dL_worths_134 (fun H locs hP hS => ?_)
            have hP : va_P (dC, dI) vwCl [(ax, .inr (2, [.ref a0, .ref a1, .ref ae, .ref aw, .int (nI k), .int (nI tn), .int mk, .int wn, .int cnt])), (ao, .inr (1, [.long (lN own), .int lo])), (aq, .inr (1, [.long (lN oth), .int lq])), (ae, .inr (0, [.ref at_, .int (nI kk1)])), (at_, .inl (cyI, 13500, .inl w1)), (aw, .inl (cyI, 15, .inl wb)), (rx, .inl (cyI, 32, .inl F)), (ry, .inl (cyI, 32, .inl g1)), (rz, .inl (cyI, 32, .inl z1)), (rq, .inl (cyI, 7, .inl Qf)), (ru, .inl (cyI, 15, .inl (upd v i (-1))))] H := hP
            refine lv_aload hx hb dL_worths_135 (lv_at hl 9 rfl) ?_
            refine lv_iload hx hb dL_worths_137 (lv_at hl 0 rfl) ?_
            refine zi_iald hx hb hK hP 10 0 rfl rfl (j := i) rfl (by omega) (by decide) dL_worths_139 ?_
            refine zz_i (y := -1) pk_us ?_
            refine lv_iload hx hb dL_worths_140 (lv_at hl 2 rfl) ?_
            refine lv_icmp_le (tgt := 153) hx hb dL_worths_142 (by decide) (fun c_142 => ?_) (fun c_142 => ?_)
            · skip
              refine lv_iload hx hb dL_worths_153 (lv_at hl 2 rfl) ?_
              refine lv_istore (lv' := [(7, .int (nI x)), (9, .int (nI i)), (8, .int (nI cv)), (0, .ref ax), (1, .int (nI d)), (2, .ref rx), (3, .ref ry), (4, .ref rz), (5, .ref rq), (6, .ref ru)]) hx hb dL_worths_155 hl (by decide) rfl (fun ls hl => ?_)
              refine lv_iload hx hb dL_worths_157 (lv_at hl 2 rfl) ?_
              refine lv_aload hx hb dL_worths_159 (lv_at hl 9 rfl) ?_
              refine lv_iload hx hb dL_worths_161 (lv_at hl 1 rfl) ?_
              refine zi_iald hx hb hK hP 10 0 rfl rfl (j := i) rfl (by omega) (by decide) dL_worths_163 ?_
              refine zz_i (y := -1) pk_us ?_
              refine lv_if_ge (tgt := 171) hx hb dL_worths_164 (by decide) (fun c9 => absurd c9 (by decide)) (fun _ => ?_)
              refine lv_iconst (v := 0) hx hb dL_worths_167 (by decide) ?_
              refine lv_goto (tgt := 172) hx hb dL_worths_168 (by decide) ?_
              refine lv_iadd hx hb dL_worths_172 ?_
              refine zz_i (y := nI (cv + 0)) (nI_add cv 0) ?_
              refine lv_istore (lv' := [(8, .int (nI (cv + 0))), (7, .int (nI x)), (9, .int (nI i)), (0, .ref ax), (1, .int (nI d)), (2, .ref rx), (3, .ref ry), (4, .ref rz), (5, .ref rq), (6, .ref ru)]) hx hb dL_worths_173 hl (by decide) rfl (fun ls hl => ?_)
              refine lv_iinc (v := nI (i + 1)) (lv' := [(9, .int (nI (i + 1))), (8, .int (nI (cv + 0))), (7, .int (nI x)), (0, .ref ax), (1, .int (nI d)), (2, .ref rx), (3, .ref ry), (4, .ref rz), (5, .ref rq), (6, .ref ru)]) hx hb dL_worths_175 hl (k := 2) rfl (nI_1 i) (by decide) rfl (fun ls hl => ?_)
              refine lv_goto (tgt := 82) hx hb dL_worths_178 (by decide) ?_
              exact ih82 (i + 1) _ _ _ _ _ _ _ (by omega) hx9 (fun h => absurd h c_97) (fun h => by rw [zBst_s, if_neg (by rw [c_114]; decide)]; exact hB h) (by rw [zNum_s, if_neg (by rw [c_114]; decide), hcv]) (zWB_n hv c_114) hk3 ht3 (by omega) _ _ hP hS _ (lv_sub hl [0, 1, 2, 3, 4, 5, 6, 7, 8, 9] rfl)
            · skip
              exact absurd (zm1 hx9) c_142
          · skip
            have c_114 := bI_1.mp c_114
            refine lv_aload_n hx hb dL_worths_117 rfl (lv_at hl 3 rfl) ?_
            refine lv_iload hx hb dL_worths_118 (lv_at hl 0 rfl) ?_
            refine lv_iload_n hx hb dL_worths_120 rfl (lv_at hl 4 rfl) ?_
            refine lv_aload_n hx hb dL_worths_121 rfl (lv_at hl 5 rfl) ?_
            refine lv_aload_n hx hb dL_worths_122 rfl (lv_at hl 6 rfl) ?_
            refine lv_aload hx hb dL_worths_123 (lv_at hl 7 rfl) ?_
            refine lv_aload hx hb dL_worths_125 (lv_at hl 8 rfl) ?_
            refine zrw_i (w1 := fun u : Nat × (Nat → Int32) × (Nat → Int32) × (Nat → Int32) => [(ax, .inr (2, [.ref a0, .ref a1, .ref ae, .ref aw, .int (nI k), .int (nI tn), .int mk, .int wn, .int cnt])), (ae, .inr (0, [.ref at_, .int (nI u.1)])), (at_, .inl (cyI, 13500, .inl u.2.1)), (rx, .inl (cyI, 32, .inl F)), (ry, .inl (cyI, 32, .inl u.2.2.1)), (rz, .inl (cyI, 32, .inl u.2.2.2)), (rq, .inl (cyI, 7, .inl Qf))]) (al := [ax, ae, at_, rx, ry, rz, rq]) (va_runS (As := [.ref ax, .int (nI i), .int (nI d), .ref rx, .ref ry, .ref rz, .ref rq]) (rest := [.int (nI i), .ref ru]) ⟨hx, hb, hml, hown, hts⟩ (c_L_behind l dC dI cyI cyJ tb ax a0 a1 ae aw at_ rx ry rz rq (nI k) (nI tn) mk wn cnt w1 F g1 z1 Qf k kk1 tn own oth i mm d hk1 (by omega) hr9 hO hQ hg hk3 ht3 (by omega) (by omega) (by omega) hq.1 hq.2.1 (hq.2.2.1.trans (zmk_ne hmk c_97)) c_114 (z_nd hDD.1 [0, 3, 4, 6, 7, 8, 9] (by decide) rfl)) (va_cwS 7 hts gL_worths_L_behind rfl rfl rfl (by decide +kernel) ⟨(show 60 + 1 ≤ 80 by omega), (show 8 + (9 + 11) + 1300 ≤ 1700 by omega)⟩) (zPc_S zB_X hP hK [0, 3, 4, 6, 7, 8, 9] rfl (zX_at hX hS (zA_pl (al := [ax, ao, aq, ae, at_, aw, rx, ry, rz, rq, ru]) (bl := [ax, ae, at_, rx, ry, rz, rq]) [0, 3, 4, 6, 7, 8, 9] rfl))) rfl rfl hl.1 rfl (lv_room (Nat.le_of_ble_eq_true rfl)) dL_worths_127 ⟨Nat.zero_le _, Nat.zero_le _⟩) hP hDD hS [0, 3, 4, 6, 7, 8, 9] rfl (fun _ => rfl) (fun r_127 u_127 H locs hw_127 hP hS => ?_)
            have hP : va_P (dC, dI) vwCl [(ax, .inr (2, [.ref a0, .ref a1, .ref ae, .ref aw, .int (nI k), .int (nI tn), .int mk, .int wn, .int cnt])), (ao, .inr (1, [.long (lN own), .int lo])), (aq, .inr (1, [.long (lN oth), .int lq])), (ae, .inr (0, [.ref at_, .int (nI u_127.1)])), (at_, .inl (cyI, 13500, .inl u_127.2.1)), (aw, .inl (cyI, 15, .inl wb)), (rx, .inl (cyI, 32, .inl F)), (ry, .inl (cyI, 32, .inl u_127.2.2.1)), (rz, .inl (cyI, 32, .inl u_127.2.2.2)), (rq, .inl (cyI, 7, .inl Qf)), (ru, .inl (cyI, 15, .inl v))] H := hP
            refine zz_i (y := nI (zBM (zV k d) own oth i mm)) hw_127.1 ?_
            refine lv_goto (tgt := 134) hx hb dL_worths_130 (by decide) ?_
            refine zi_iast hx hb hK hP hDD hS 10 0 rfl rfl (j := i) rfl (by omega) (by decide) dL_worths_134 (fun H locs hP hS => ?_)
            have hP : va_P (dC, dI) vwCl [(ax, .inr (2, [.ref a0, .ref a1, .ref ae, .ref aw, .int (nI k), .int (nI tn), .int mk, .int wn, .int cnt])), (ao, .inr (1, [.long (lN own), .int lo])), (aq, .inr (1, [.long (lN oth), .int lq])), (ae, .inr (0, [.ref at_, .int (nI u_127.1)])), (at_, .inl (cyI, 13500, .inl u_127.2.1)), (aw, .inl (cyI, 15, .inl wb)), (rx, .inl (cyI, 32, .inl F)), (ry, .inl (cyI, 32, .inl u_127.2.2.1)), (rz, .inl (cyI, 32, .inl u_127.2.2.2)), (rq, .inl (cyI, 7, .inl Qf)), (ru, .inl (cyI, 15, .inl (upd v i (nI (zBM (zV k d) own oth i mm)))))] H := hP
            refine lv_aload hx hb dL_worths_135 (lv_at hl 9 rfl) ?_
            refine lv_iload hx hb dL_worths_137 (lv_at hl 0 rfl) ?_
            refine zi_iald hx hb hK hP 10 0 rfl rfl (j := i) rfl (by omega) (by decide) dL_worths_139 ?_
            refine zz_i (y := nI (zBM (zV k d) own oth i mm)) pk_us ?_
            refine lv_iload hx hb dL_worths_140 (lv_at hl 2 rfl) ?_
            refine lv_icmp_le (tgt := 153) hx hb dL_worths_142 (by decide) (fun c_142 => ?_) (fun c_142 => ?_)
            · skip
              have c_142 : (zBM (zV k d) own oth i mm) ≤ x := (nI_leI (a := zBM (zV k d) own oth i mm) (b := x) (by omega) (by omega)).mp c_142
              refine lv_iload hx hb dL_worths_153 (lv_at hl 2 rfl) ?_
              refine lv_istore (lv' := [(7, .int (nI x)), (9, .int (nI i)), (8, .int (nI cv)), (0, .ref ax), (1, .int (nI d)), (2, .ref rx), (3, .ref ry), (4, .ref rz), (5, .ref rq), (6, .ref ru)]) hx hb dL_worths_155 hl (by decide) rfl (fun ls hl => ?_)
              refine lv_iload hx hb dL_worths_157 (lv_at hl 2 rfl) ?_
              refine lv_aload hx hb dL_worths_159 (lv_at hl 9 rfl) ?_
              refine lv_iload hx hb dL_worths_161 (lv_at hl 1 rfl) ?_
              refine zi_iald hx hb hK hP 10 0 rfl rfl (j := i) rfl (by omega) (by decide) dL_worths_163 ?_
              refine zz_i (y := nI (zBM (zV k d) own oth i mm)) pk_us ?_
              refine lv_if_ge (tgt := 171) hx hb dL_worths_164 (by decide) (fun c_164 => ?_) (fun c_164 => ?_)
              · skip
                have c_164 : 0 ≤ (zBM (zV k d) own oth i mm) := (nI_leI (a := 0) (b := zBM (zV k d) own oth i mm) (by omega) (by omega)).mp c_164
                refine lv_iconst (v := 1) hx hb dL_worths_171 (by decide) ?_
                refine lv_iadd hx hb dL_worths_172 ?_
                refine zz_i (y := nI (cv + 1)) (nI_add cv 1) ?_
                refine lv_istore (lv' := [(8, .int (nI (cv + 1))), (7, .int (nI x)), (9, .int (nI i)), (0, .ref ax), (1, .int (nI d)), (2, .ref rx), (3, .ref ry), (4, .ref rz), (5, .ref rq), (6, .ref ru)]) hx hb dL_worths_173 hl (by decide) rfl (fun ls hl => ?_)
                refine lv_iinc (v := nI (i + 1)) (lv' := [(9, .int (nI (i + 1))), (8, .int (nI (cv + 1))), (7, .int (nI x)), (0, .ref ax), (1, .int (nI d)), (2, .ref rx), (3, .ref ry), (4, .ref rz), (5, .ref rq), (6, .ref ru)]) hx hb dL_worths_175 hl (k := 2) rfl (nI_1 i) (by decide) rfl (fun ls hl => ?_)
                refine lv_goto (tgt := 82) hx hb dL_worths_178 (by decide) ?_
                exact ih82 (i + 1) _ _ _ _ _ _ _ (by omega) hx9 (fun h => absurd h c_97) (fun h => by rw [zBst_s, if_pos c_114, ← hB h, Nat.max_eq_left c_142]) (by rw [zNum_s, if_pos c_114, hcv]) (zWB_y hv c_114) hw_127.2.2 hw_127.2.1 (by omega) _ _ hP hS _ (lv_sub hl [0, 1, 2, 3, 4, 5, 6, 7, 8, 9] rfl)
              · skip
                have c_164 : ¬ 0 ≤ (zBM (zV k d) own oth i mm) := fun h9 => c_164 ((nI_leI (a := 0) (b := zBM (zV k d) own oth i mm) (by omega) (by omega)).mpr h9)
                exact absurd (Nat.zero_le _) c_164
            · skip
              have c_142 : ¬ (zBM (zV k d) own oth i mm) ≤ x := fun h9 => c_142 ((nI_leI (a := zBM (zV k d) own oth i mm) (b := x) (by omega) (by omega)).mpr h9)
              refine lv_aload hx hb dL_worths_145 (lv_at hl 9 rfl) ?_
              refine lv_iload hx hb dL_worths_147 (lv_at hl 0 rfl) ?_
              refine zi_iald hx hb hK hP 10 0 rfl rfl (j := i) rfl (by omega) (by decide) dL_worths_149 ?_
              refine zz_i (y := nI (zBM (zV k d) own oth i mm)) pk_us ?_
              refine lv_goto (tgt := 155) hx hb dL_worths_150 (by decide) ?_
              refine lv_istore (lv' := [(7, .int (nI (zBM (zV k d) own oth i mm))), (9, .int (nI i)), (8, .int (nI cv)), (0, .ref ax), (1, .int (nI d)), (2, .ref rx), (3, .ref ry), (4, .ref rz), (5, .ref rq), (6, .ref ru)]) hx hb dL_worths_155 hl (by decide) rfl (fun ls hl => ?_)
              refine lv_iload hx hb dL_worths_157 (lv_at hl 2 rfl) ?_
              refine lv_aload hx hb dL_worths_159 (lv_at hl 9 rfl) ?_
              refine lv_iload hx hb dL_worths_161 (lv_at hl 1 rfl) ?_
              refine zi_iald hx hb hK hP 10 0 rfl rfl (j := i) rfl (by omega) (by decide) dL_worths_163 ?_
              refine zz_i (y := nI (zBM (zV k d) own oth i mm)) pk_us ?_
              refine lv_if_ge (tgt := 171) hx hb dL_worths_164 (by decide) (fun c_164 => ?_) (fun c_164 => ?_)
              · skip
                have c_164 : 0 ≤ (zBM (zV k d) own oth i mm) := (nI_leI (a := 0) (b := zBM (zV k d) own oth i mm) (by omega) (by omega)).mp c_164
                refine lv_iconst (v := 1) hx hb dL_worths_171 (by decide) ?_
                refine lv_iadd hx hb dL_worths_172 ?_
                refine zz_i (y := nI (cv + 1)) (nI_add cv 1) ?_
                refine lv_istore (lv' := [(8, .int (nI (cv + 1))), (7, .int (nI (zBM (zV k d) own oth i mm))), (9, .int (nI i)), (0, .ref ax), (1, .int (nI d)), (2, .ref rx), (3, .ref ry), (4, .ref rz), (5, .ref rq), (6, .ref ru)]) hx hb dL_worths_173 hl (by decide) rfl (fun ls hl => ?_)
                refine lv_iinc (v := nI (i + 1)) (lv' := [(9, .int (nI (i + 1))), (8, .int (nI (cv + 1))), (7, .int (nI (zBM (zV k d) own oth i mm))), (0, .ref ax), (1, .int (nI d)), (2, .ref rx), (3, .ref ry), (4, .ref rz), (5, .ref rq), (6, .ref ru)]) hx hb dL_worths_175 hl (k := 2) rfl (nI_1 i) (by decide) rfl (fun ls hl => ?_)
                refine lv_goto (tgt := 82) hx hb dL_worths_178 (by decide) ?_
                exact ih82 (i + 1) _ _ _ _ _ _ _ (by omega) hbl (fun h => absurd h c_97) (fun h => by rw [zBst_s, if_pos c_114, ← hB h, Nat.max_eq_right (by omega)]) (by rw [zNum_s, if_pos c_114, hcv]) (zWB_y hv c_114) hw_127.2.2 hw_127.2.1 (by omega) _ _ hP hS _ (lv_sub hl [0, 1, 2, 3, 4, 5, 6, 7, 8, 9] rfl)
              · skip
                have c_164 : ¬ 0 ≤ (zBM (zV k d) own oth i mm) := fun h9 => c_164 ((nI_leI (a := 0) (b := zBM (zV k d) own oth i mm) (by omega) (by omega)).mpr h9)
                exact absurd (Nat.zero_le _) c_164
  refine lv_iconst (v := 0) hx hb dL_worths_0 (by decide) ?_
  refine lv_istore (lv' := [(7, .int 0), (0, .ref ax), (1, .int (nI d)), (2, .ref rx), (3, .ref ry), (4, .ref rz), (5, .ref rq), (6, .ref ru)]) hx hb dL_worths_1 hl (by decide) rfl (fun ls hl => ?_)
  refine lv_iconst (v := 0) hx hb dL_worths_3 (by decide) ?_
  refine lv_istore (lv' := [(8, .int 0), (7, .int 0), (0, .ref ax), (1, .int (nI d)), (2, .ref rx), (3, .ref ry), (4, .ref rz), (5, .ref rq), (6, .ref ru)]) hx hb dL_worths_4 hl (by decide) rfl (fun ls hl => ?_)
  refine lv_aload hx hb dL_worths_6 (lv_at hl 7 rfl) ?_
  refine lv_iconst (v := 3) hx hb dL_worths_8 (by decide) ?_
  refine zi_iald hx hb hK hP 9 0 rfl rfl (j := 3) rfl (by omega) (by decide) dL_worths_9 ?_
  refine zz_i (y := wn) hq.2.2.2.1 ?_
  refine lv_if_lt (tgt := 35) hx hb dL_worths_10 (by decide) (fun c_10 => ?_) (fun c_10 => ?_)
  · skip
    have c_10 : wn = -1 := (zwn_lt hwn).mp c_10
    refine lv_aload hx hb dL_worths_35 (lv_at hl 7 rfl) ?_
    refine lv_iconst (v := 2) hx hb dL_worths_37 (by decide) ?_
    refine zi_iald hx hb hK hP 9 0 rfl rfl (j := 2) rfl (by omega) (by decide) dL_worths_38 ?_
    refine zz_i (y := mk) hq.2.2.1 ?_
    refine lv_if_ge (tgt := 79) hx hb dL_worths_39 (by decide) (fun c_39 => ?_) (fun c_39 => ?_)
    · skip
      have c_39 : ¬ mk = -1 := fun h9 => by rw [h9] at c_39; exact absurd c_39 (by decide)
      refine lv_iconst (v := 0) hx hb dL_worths_79 (by decide) ?_
      refine lv_istore (lv' := [(9, .int 0), (8, .int 0), (7, .int 0), (0, .ref ax), (1, .int (nI d)), (2, .ref rx), (3, .ref ry), (4, .ref rz), (5, .ref rq), (6, .ref ru)]) hx hb dL_worths_80 hl (by decide) rfl (fun ls hl => ?_)
      exact lw82 16 0 0 0 kk wf G Z Wf (by omega) (by omega) (fun h => absurd h c_39) (fun _ => rfl) rfl (fun _ h => absurd h (Nat.not_lt_zero _)) hkk htb (by omega) _ _ hP hS _ (lv_sub hl [0, 1, 2, 3, 4, 5, 6, 7, 8, 9] rfl)
    · skip
      have c_39 : mk = -1 := (zmk_neg hmk hmm).mp (Int32.not_le.mp c_39)
      refine lv_iload_n hx hb dL_worths_42 rfl (lv_at hl 3 rfl) ?_
      refine lv_if_ne (tgt := 62) hx hb dL_worths_43 (by decide) (fun c_43 => ?_) (fun c_43 => ?_)
      · skip
        have c_43 : ¬ d = 0 := fun h9 => c_43 ((nI_eq (a := d) (b := 0) (by omega) (by omega)).mpr h9)
        refine lv_aload_n hx hb dL_worths_62 rfl (lv_at hl 2 rfl) ?_
        refine lv_aload_n hx hb dL_worths_63 rfl (lv_at hl 4 rfl) ?_
        refine lv_aload hx hb dL_worths_64 (lv_at hl 6 rfl) ?_
        refine lv_aload hx hb dL_worths_66 (lv_at hl 7 rfl) ?_
        refine lv_iconst (v := 1) hx hb dL_worths_68 (by decide) ?_
        refine zi_iald hx hb hK hP 9 0 rfl rfl (j := 1) rfl (by omega) (by decide) dL_worths_69 ?_
        refine zz_i (y := nI tn) hq.2.1 ?_
        refine lv_aload hx hb dL_worths_70 (lv_at hl 7 rfl) ?_
        refine lv_iconst (v := 0) hx hb dL_worths_72 (by decide) ?_
        refine zi_iald hx hb hK hP 9 0 rfl rfl (j := 0) rfl (by omega) (by decide) dL_worths_73 ?_
        refine zz_i (y := nI k) hq.1 ?_
        refine zrw_i (w1 := fun u : Nat × (Nat → Int32) × (Nat → Int32) => [(ax, .inr (2, [.ref a0, .ref a1, .ref ae, .ref aw, .int (nI k), .int (nI tn), .int mk, .int wn, .int cnt])), (ae, .inr (0, [.ref at_, .int (nI u.1)])), (at_, .inl (cyI, 13500, .inl u.2.1)), (rx, .inl (cyI, 32, .inl F)), (rz, .inl (cyI, 32, .inl u.2.2))]) (al := [ax, ae, at_, rx, rz]) (va_runS (As := [.ref ax, .ref rx, .ref rz, .int (nI tn), .int (nI k)]) (rest := []) ⟨hx, hb, hml, hown, hts⟩ (c_L_ahead l dC dI cyI cyJ tb ax a0 a1 ae aw at_ rx rz (nI k) (nI tn) mk wn cnt wf F Z k kk tn own oth hk1 (by omega) hr9 hO hQ hg hkk htb (z_nd hDD.1 [0, 3, 4, 6, 8] (by decide) rfl)) (va_cwS 5 hts gL_worths_L_ahead rfl rfl rfl (by decide +kernel) ⟨(show 50 + 1 ≤ 80 by omega), (show 8 + (12 + 11) + 1100 ≤ 1700 by omega)⟩) (zPc_S zB_X hP hK [0, 3, 4, 6, 8] rfl (zX_at hX hS (zA_pl (al := [ax, ao, aq, ae, at_, aw, rx, ry, rz, rq, ru]) (bl := [ax, ae, at_, rx, rz]) [0, 3, 4, 6, 8] rfl))) rfl rfl hl.1 rfl (lv_room (Nat.le_of_ble_eq_true rfl)) dL_worths_74 ⟨Nat.zero_le _, Nat.zero_le _⟩) hP hDD hS [0, 3, 4, 6, 8] rfl (fun _ => rfl) (fun r_74 u_74 H locs hw_74 hP hS => ?_)
        have hP : va_P (dC, dI) vwCl [(ax, .inr (2, [.ref a0, .ref a1, .ref ae, .ref aw, .int (nI k), .int (nI tn), .int mk, .int wn, .int cnt])), (ao, .inr (1, [.long (lN own), .int lo])), (aq, .inr (1, [.long (lN oth), .int lq])), (ae, .inr (0, [.ref at_, .int (nI u_74.1)])), (at_, .inl (cyI, 13500, .inl u_74.2.1)), (aw, .inl (cyI, 15, .inl wb)), (rx, .inl (cyI, 32, .inl F)), (ry, .inl (cyI, 32, .inl G)), (rz, .inl (cyI, 32, .inl u_74.2.2)), (rq, .inl (cyI, 7, .inl Qf)), (ru, .inl (cyI, 15, .inl Wf))] H := hP
        refine zz_i (y := nI (zV k 1 own oth)) hw_74.1 ?_
        refine zz_i (y := nI (zV k d own oth)) (by rw [show d = 1 by omega]) ?_
        refine lv_istore (lv' := [(7, .int (nI (zV k d own oth))), (8, .int 0), (0, .ref ax), (1, .int (nI d)), (2, .ref rx), (3, .ref ry), (4, .ref rz), (5, .ref rq), (6, .ref ru)]) hx hb dL_worths_77 hl (by decide) rfl (fun ls hl => ?_)
        refine lv_iconst (v := 0) hx hb dL_worths_79 (by decide) ?_
        refine lv_istore (lv' := [(9, .int 0), (7, .int (nI (zV k d own oth))), (8, .int 0), (0, .ref ax), (1, .int (nI d)), (2, .ref rx), (3, .ref ry), (4, .ref rz), (5, .ref rq), (6, .ref ru)]) hx hb dL_worths_80 hl (by decide) rfl (fun ls hl => ?_)
        exact lw82 16 0 (zV k d own oth) 0 u_74.1 u_74.2.1 G u_74.2.2 Wf (by omega) (zV_le k d own oth) (fun _ => by rw [zWT, if_pos c_10, if_pos c_39]) (fun h => absurd c_39 h) rfl (fun _ h => absurd h (Nat.not_lt_zero _)) hw_74.2.2 hw_74.2.1 (by omega) _ _ hP hS _ (lv_sub hl [0, 2, 1, 3, 4, 5, 6, 7, 8, 9] rfl)
      · skip
        have c_43 : d = 0 := (nI_eq (a := d) (b := 0) (by omega) (by omega)).mp c_43
        refine lv_aload_n hx hb dL_worths_46 rfl (lv_at hl 2 rfl) ?_
        refine lv_aload_n hx hb dL_worths_47 rfl (lv_at hl 4 rfl) ?_
        refine lv_aload hx hb dL_worths_48 (lv_at hl 7 rfl) ?_
        refine lv_iconst (v := 1) hx hb dL_worths_50 (by decide) ?_
        refine zi_iald hx hb hK hP 9 0 rfl rfl (j := 1) rfl (by omega) (by decide) dL_worths_51 ?_
        refine zz_i (y := nI tn) hq.2.1 ?_
        refine lv_aload hx hb dL_worths_52 (lv_at hl 7 rfl) ?_
        refine lv_iconst (v := 0) hx hb dL_worths_54 (by decide) ?_
        refine zi_iald hx hb hK hP 9 0 rfl rfl (j := 0) rfl (by omega) (by decide) dL_worths_55 ?_
        refine zz_i (y := nI k) hq.1 ?_
        refine zrw_i (w1 := fun u : Nat × (Nat → Int32) => [(ax, .inr (2, [.ref a0, .ref a1, .ref ae, .ref aw, .int (nI k), .int (nI tn), .int mk, .int wn, .int cnt])), (ae, .inr (0, [.ref at_, .int (nI u.1)])), (at_, .inl (cyI, 13500, .inl u.2)), (rx, .inl (cyI, 32, .inl F))]) (al := [ax, ae, at_, rx]) (va_runS (As := [.ref ax, .ref rx, .int (nI tn), .int (nI k)]) (rest := []) ⟨hx, hb, hml, hown, hts⟩ (c_L_plain l dC dI cyI cyJ tb ax a0 a1 ae aw at_ rx (nI k) (nI tn) mk wn cnt wf F k kk tn own oth hk1 (by omega) hr9 hO hQ hg hkk htb (z_nd hDD.1 [0, 3, 4, 6] (by decide) rfl)) (va_cwS 4 hts gL_worths_L_plain rfl rfl rfl (by decide +kernel) ⟨(show 40 + 1 ≤ 80 by omega), (show 8 + (7 + 11) + 900 ≤ 1700 by omega)⟩) (zPc_S zB_X hP hK [0, 3, 4, 6] rfl (zX_at hX hS (zA_pl (al := [ax, ao, aq, ae, at_, aw, rx, ry, rz, rq, ru]) (bl := [ax, ae, at_, rx]) [0, 3, 4, 6] rfl))) rfl rfl hl.1 rfl (lv_room (Nat.le_of_ble_eq_true rfl)) dL_worths_56 ⟨Nat.zero_le _, Nat.zero_le _⟩) hP hDD hS [0, 3, 4, 6] rfl (fun _ => rfl) (fun r_56 u_56 H locs hw_56 hP hS => ?_)
        have hP : va_P (dC, dI) vwCl [(ax, .inr (2, [.ref a0, .ref a1, .ref ae, .ref aw, .int (nI k), .int (nI tn), .int mk, .int wn, .int cnt])), (ao, .inr (1, [.long (lN own), .int lo])), (aq, .inr (1, [.long (lN oth), .int lq])), (ae, .inr (0, [.ref at_, .int (nI u_56.1)])), (at_, .inl (cyI, 13500, .inl u_56.2)), (aw, .inl (cyI, 15, .inl wb)), (rx, .inl (cyI, 32, .inl F)), (ry, .inl (cyI, 32, .inl G)), (rz, .inl (cyI, 32, .inl Z)), (rq, .inl (cyI, 7, .inl Qf)), (ru, .inl (cyI, 15, .inl Wf))] H := hP
        refine zz_i (y := nI (zLf k own oth)) hw_56.1 ?_
        refine lv_goto (tgt := 77) hx hb dL_worths_59 (by decide) ?_
        refine zz_i (y := nI (zV k d own oth)) (by rw [show d = 0 by omega] <;> rfl) ?_
        refine lv_istore (lv' := [(7, .int (nI (zV k d own oth))), (8, .int 0), (0, .ref ax), (1, .int (nI d)), (2, .ref rx), (3, .ref ry), (4, .ref rz), (5, .ref rq), (6, .ref ru)]) hx hb dL_worths_77 hl (by decide) rfl (fun ls hl => ?_)
        refine lv_iconst (v := 0) hx hb dL_worths_79 (by decide) ?_
        refine lv_istore (lv' := [(9, .int 0), (7, .int (nI (zV k d own oth))), (8, .int 0), (0, .ref ax), (1, .int (nI d)), (2, .ref rx), (3, .ref ry), (4, .ref rz), (5, .ref rq), (6, .ref ru)]) hx hb dL_worths_80 hl (by decide) rfl (fun ls hl => ?_)
        exact lw82 16 0 (zV k d own oth) 0 u_56.1 u_56.2 G Z Wf (by omega) (zV_le k d own oth) (fun _ => by rw [zWT, if_pos c_10, if_pos c_39]) (fun h => absurd c_39 h) rfl (fun _ h => absurd h (Nat.not_lt_zero _)) hw_56.2.2 hw_56.2.1 (by omega) _ _ hP hS _ (lv_sub hl [0, 2, 1, 3, 4, 5, 6, 7, 8, 9] rfl)
  · skip
    have c_10 : ¬ wn = -1 := fun h9 => c_10 ((zwn_lt hwn).mpr h9)
    refine lv_aload hx hb dL_worths_13 (lv_at hl 7 rfl) ?_
    refine lv_iconst (v := 3) hx hb dL_worths_15 (by decide) ?_
    refine zi_iald hx hb hK hP 9 0 rfl rfl (j := 3) rfl (by omega) (by decide) dL_worths_16 ?_
    refine zz_i (y := wn) hq.2.2.2.1 ?_
    refine lv_aload hx hb dL_worths_17 (lv_at hl 7 rfl) ?_
    refine lv_iconst (v := 1) hx hb dL_worths_19 (by decide) ?_
    refine zi_iald hx hb hK hP 9 0 rfl rfl (j := 1) rfl (by omega) (by decide) dL_worths_20 ?_
    refine zz_i (y := nI tn) hq.2.1 ?_
    refine lv_icmp_ne (tgt := 29) hx hb dL_worths_21 (by decide) (fun c_21 => ?_) (fun c_21 => ?_)
    · skip
      refine lv_iconst (v := 0) hx hb dL_worths_29 (by decide) ?_
      refine lv_istore (lv' := [(7, .int 0), (8, .int 0), (0, .ref ax), (1, .int (nI d)), (2, .ref rx), (3, .ref ry), (4, .ref rz), (5, .ref rq), (6, .ref ru)]) hx hb dL_worths_30 hl (by decide) rfl (fun ls hl => ?_)
      refine lv_goto (tgt := 79) hx hb dL_worths_32 (by decide) ?_
      refine lv_iconst (v := 0) hx hb dL_worths_79 (by decide) ?_
      refine lv_istore (lv' := [(9, .int 0), (7, .int 0), (8, .int 0), (0, .ref ax), (1, .int (nI d)), (2, .ref rx), (3, .ref ry), (4, .ref rz), (5, .ref rq), (6, .ref ru)]) hx hb dL_worths_80 hl (by decide) rfl (fun ls hl => ?_)
      exact lw82 16 0 0 0 kk wf G Z Wf (by omega) (by omega) (fun _ => by rw [zWT, if_neg c_10, if_neg c_21] <;> rfl) (fun h => absurd (hmw.resolve_right c_10) h) rfl (fun _ h => absurd h (Nat.not_lt_zero _)) hkk htb (by omega) _ _ hP hS _ (lv_sub hl [0, 2, 1, 3, 4, 5, 6, 7, 8, 9] rfl)
    · skip
      refine lv_ldc (v := 1000000000) hx hb hown (hts (.constant RL 53 (1000000000)) (List.mem_of_getElem? (i := 1) rfl)) dL_worths_24 ?_
      refine lv_goto (tgt := 30) hx hb dL_worths_26 (by decide) ?_
      refine lv_istore (lv' := [(7, .int 1000000000), (8, .int 0), (0, .ref ax), (1, .int (nI d)), (2, .ref rx), (3, .ref ry), (4, .ref rz), (5, .ref rq), (6, .ref ru)]) hx hb dL_worths_30 hl (by decide) rfl (fun ls hl => ?_)
      refine lv_goto (tgt := 79) hx hb dL_worths_32 (by decide) ?_
      refine lv_iconst (v := 0) hx hb dL_worths_79 (by decide) ?_
      refine lv_istore (lv' := [(9, .int 0), (7, .int 1000000000), (8, .int 0), (0, .ref ax), (1, .int (nI d)), (2, .ref rx), (3, .ref ry), (4, .ref rz), (5, .ref rq), (6, .ref ru)]) hx hb dL_worths_80 hl (by decide) rfl (fun ls hl => ?_)
      exact lw82 16 0 1000000000 0 kk wf G Z Wf (by omega) (by omega) (fun _ => by rw [zWT, if_neg c_10, if_pos c_21] <;> rfl) (fun h => absurd (hmw.resolve_right c_10) h) rfl (fun _ h => absurd h (Nat.not_lt_zero _)) hkk htb (by omega) _ _ hP hS _ (lv_sub hl [0, 2, 1, 3, 4, 5, 6, 7, 8, 9] rfl)

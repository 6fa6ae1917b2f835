/-! the law looks at what the class tells -/
theorem zNum_16 (own oth mm : Nat) : zNum own oth mm 16 = zNum own oth mm 15 := by
  rw [zNum_s, if_neg (by rw [zcm_no1 (by omega)]; decide), Nat.add_zero]
theorem zQ5 {f : Nat → Int32} {k tn : Nat} {mk wn cnt lo lq : Int32} (htn : tn ≤ 1) (h : zQ f k tn mk wn cnt lo lq) : (if 0 = tn then lo else lq) = f 5 := by
  obtain ⟨-, -, -, -, -, h5, h6⟩ := h
  rcases (show tn = 0 ∨ tn = 1 by omega) with e | e
  · subst e; exact h5.symm
  · subst e; exact h6.symm
theorem zQ6 {f : Nat → Int32} {k tn : Nat} {mk wn cnt lo lq : Int32} (htn : tn ≤ 1) (h : zQ f k tn mk wn cnt lo lq) : (if 1 = tn then lo else lq) = f 6 := by
  obtain ⟨-, -, -, -, -, h5, h6⟩ := h
  rcases (show tn = 0 ∨ tn = 1 by omega) with e | e
  · subst e; exact h6.symm
  · subst e; exact h5.symm
theorem zsel0 {F : Nat → Int32} {tn own oth p : Nat} (htn : tn ≤ 1) (h : zRow F 0 tn own oth) (hp : p ≤ 15) : F p = nI (dg (if 0 = tn then own else oth) p) := by
  have h9 := zRow_sel (s := 0) (p := p) htn h (by omega) hp
  rw [Nat.mul_zero, Nat.zero_add] at h9; exact h9
theorem zsel1 {F : Nat → Int32} {tn own oth p : Nat} (htn : tn ≤ 1) (h : zRow F 0 tn own oth) (hp : p ≤ 15) : F (16 + p) = nI (dg (if 1 = tn then own else oth) p) := by
  have h9 := zRow_sel (s := 1) (p := p) htn h (by omega) hp
  rw [Nat.mul_one] at h9; exact h9
set_option maxHeartbeats 4000000 in
set_option maxRecDepth 100000 in
theorem c_L_isSo (l : Launch) (dC : Nat → ClassId) (dI : Nat → Nat → Nat) (cyI cyJ : ClassId) (ax a0 a1 ae aw ao aq rx rq : Nat) (mk wn cnt lo lq : Int32) (F Qf : Nat → Int32) (k tn own oth mm : Nat) (hsd : zSd tn a0 a1 ao aq) (hO : zok k own) (hQ : zok k oth) (hr9 : zRow F 0 tn own oth) (hmk : zmk mk mm) (hmm : mm ≤ 4) (hq : zQ Qf k tn mk wn cnt lo lq) : Met l yL_isSo wsL_isSo ({ frames := 4, cells := 0, slots := 0, locals := 95 }) (zPc [.ref ax, .ref rx, .ref rq] (dC, dI) vwCl [(cyI, .int)] [(ax, .inr (2, [.ref a0, .ref a1, .ref ae, .ref aw, .int (nI k), .int (nI tn), .int mk, .int wn, .int cnt])), (ao, .inr (1, [.long (lN own), .int lo])), (aq, .inr (1, [.long (lN oth), .int lq])), (rx, .inl (cyI, 32, .inl F)), (rq, .inl (cyI, 7, .inl Qf))] (fun _ => True)) (va_Qi (fun (r : Int32) (_ : Unit) => r = 1) (fun _ _ => True) zF) 0 0 zF := by
  refine Met.ofW (cc := cL_isSo) (maxL := 7) (ret := (some .boolean)) (by decide) rfl ?_
  intro p e s m args below meth c s₁ B hml hv
  obtain ⟨rfl, hP, hK, hX⟩ := hv
  have hx := B.exec
  have hb := B.bytes
  have hr := B.returns
  have hts := atoms_spec (ws := wsL_isSo) B.pre
  have hown : s.vm.findClass RL = some m.cls := findClass_of_methodNamed B.named
  have hlocks := B.notSynchronized
  have hl := lv_entry ([.ref ax, .ref rx, .ref rq]) (n := 7) (Nat.le_of_ble_eq_true rfl)
  rw [lg_entry_eq]
  generalize (lg_sl ([.ref ax, .ref rx, .ref rq]) ++ List.replicate (7 - (lg_sl ([.ref ax, .ref rx, .ref rq])).length) Slot.unset).toArray = ls at hl ⊢
  have hl : lv_has ls 7 [(0, .ref ax), (1, .ref rx), (2, .ref rq)] := hl
  have hS : va_S zF s.heap s.heap [] := va_S.rf
  generalize hQe : MQ below _ _ _ _ _ _ = Q
  have htn := zSd_le hsd
  refine lv_aload_n hx hb dL_isSo_0 rfl (lv_at hl 0 rfl) ?_
  refine zro_i (va_runV (As := []) (rest := []) ⟨hx, hb, hml, hown, hts⟩ (c_X5_turn l dC dI cyI cyJ ax a0 a1 ae aw (nI k) (nI tn) mk wn cnt) (cwV 0 hts gL_isSo_X5_turn rfl rfl rfl (by decide +kernel) ⟨Nat.le_of_ble_eq_true rfl, Nat.le_of_ble_eq_true rfl⟩) (zPc_V (ci := 2) (q0 := 0) zB_T hP hK rfl rfl [0] rfl (fun _ _ _ => trivial)) rfl rfl hl.1 rfl (lv_room (Nat.le_of_ble_eq_true rfl)) dL_isSo_1 ⟨Nat.zero_le _, Nat.zero_le _⟩) hP hS (fun H locs hP hS => ?_)
  refine lv_aload_n hx hb dL_isSo_4 rfl (lv_at hl 2 rfl) ?_
  refine lv_iconst (v := 1) hx hb dL_isSo_5 (by decide) ?_
  refine zi_iald hx hb hK hP 4 0 rfl rfl (j := 1) rfl (by omega) (by decide) dL_isSo_6 ?_
  refine zz_i (y := nI tn) hq.2.1 ?_
  refine lv_icmp_ne (tgt := 44) hx hb dL_isSo_7 (by decide) (fun c_7 => ?_) (fun c_7 => ?_)
  · skip
    exact absurd rfl c_7
  · skip
    refine lv_aload_n hx hb dL_isSo_10 rfl (lv_at hl 0 rfl) ?_
    refine zro_i (va_runV (As := []) (rest := []) ⟨hx, hb, hml, hown, hts⟩ (c_X5_marks l dC dI cyI cyJ ax a0 a1 ae aw (nI k) (nI tn) mk wn cnt) (cwV 0 hts gL_isSo_X5_marks rfl rfl rfl (by decide +kernel) ⟨Nat.le_of_ble_eq_true rfl, Nat.le_of_ble_eq_true rfl⟩) (zPc_V (ci := 2) (q0 := 0) zB_T hP hK rfl rfl [0] rfl (fun _ _ _ => trivial)) rfl rfl hl.1 rfl (lv_room (Nat.le_of_ble_eq_true rfl)) dL_isSo_11 ⟨Nat.zero_le _, Nat.zero_le _⟩) hP hS (fun H locs hP hS => ?_)
    refine lv_aload_n hx hb dL_isSo_14 rfl (lv_at hl 2 rfl) ?_
    refine lv_iconst (v := 2) hx hb dL_isSo_15 (by decide) ?_
    refine zi_iald hx hb hK hP 4 0 rfl rfl (j := 2) rfl (by omega) (by decide) dL_isSo_16 ?_
    refine zz_i (y := mk) hq.2.2.1 ?_
    refine lv_icmp_ne (tgt := 44) hx hb dL_isSo_17 (by decide) (fun c_17 => ?_) (fun c_17 => ?_)
    · skip
      exact absurd rfl c_17
    · skip
      refine lv_aload_n hx hb dL_isSo_20 rfl (lv_at hl 0 rfl) ?_
      refine zro_i (va_runV (As := []) (rest := []) ⟨hx, hb, hml, hown, hts⟩ (c_X5_winner l dC dI cyI cyJ ax a0 a1 ae aw (nI k) (nI tn) mk wn cnt) (cwV 0 hts gL_isSo_X5_winner rfl rfl rfl (by decide +kernel) ⟨Nat.le_of_ble_eq_true rfl, Nat.le_of_ble_eq_true rfl⟩) (zPc_V (ci := 2) (q0 := 0) zB_T hP hK rfl rfl [0] rfl (fun _ _ _ => trivial)) rfl rfl hl.1 rfl (lv_room (Nat.le_of_ble_eq_true rfl)) dL_isSo_21 ⟨Nat.zero_le _, Nat.zero_le _⟩) hP hS (fun H locs hP hS => ?_)
      refine lv_aload_n hx hb dL_isSo_24 rfl (lv_at hl 2 rfl) ?_
      refine lv_iconst (v := 3) hx hb dL_isSo_25 (by decide) ?_
      refine zi_iald hx hb hK hP 4 0 rfl rfl (j := 3) rfl (by omega) (by decide) dL_isSo_26 ?_
      refine zz_i (y := wn) hq.2.2.2.1 ?_
      refine lv_icmp_ne (tgt := 44) hx hb dL_isSo_27 (by decide) (fun c_27 => ?_) (fun c_27 => ?_)
      · skip
        exact absurd rfl c_27
      · skip
        refine lv_aload_n hx hb dL_isSo_30 rfl (lv_at hl 0 rfl) ?_
        refine zro_i (va_runV (As := []) (rest := []) ⟨hx, hb, hml, hown, hts⟩ (c_X5_throwsTold l dC dI cyI cyJ ax a0 a1 ae aw (nI k) (nI tn) mk wn cnt) (cwV 0 hts gL_isSo_X5_throwsTold rfl rfl rfl (by decide +kernel) ⟨Nat.le_of_ble_eq_true rfl, Nat.le_of_ble_eq_true rfl⟩) (zPc_V (ci := 2) (q0 := 0) zB_T hP hK rfl rfl [0] rfl (fun _ _ _ => trivial)) rfl rfl hl.1 rfl (lv_room (Nat.le_of_ble_eq_true rfl)) dL_isSo_31 ⟨Nat.zero_le _, Nat.zero_le _⟩) hP hS (fun H locs hP hS => ?_)
        refine lv_aload_n hx hb dL_isSo_34 rfl (lv_at hl 2 rfl) ?_
        refine lv_iconst (v := 4) hx hb dL_isSo_35 (by decide) ?_
        refine zi_iald hx hb hK hP 4 0 rfl rfl (j := 4) rfl (by omega) (by decide) dL_isSo_36 ?_
        refine zz_i (y := cnt) hq.2.2.2.2.1 ?_
        refine lv_icmp_ne (tgt := 44) hx hb dL_isSo_37 (by decide) (fun c_37 => ?_) (fun c_37 => ?_)
        · skip
          exact absurd rfl c_37
        · skip
          refine lv_iconst (v := 1) hx hb dL_isSo_40 (by decide) ?_
          refine lv_goto (tgt := 45) hx hb dL_isSo_41 (by decide) ?_
          refine lv_istore_n (lv' := [(3, .int 1), (0, .ref ax), (1, .ref rx), (2, .ref rq)]) hx hb dL_isSo_45 rfl hl (by decide) rfl (fun ls hl => ?_)
          refine lv_iconst (v := 0) hx hb dL_isSo_46 (by decide) ?_
          refine lv_istore (lv' := [(4, .int 0), (3, .int 1), (0, .ref ax), (1, .ref rx), (2, .ref rq)]) hx hb dL_isSo_47 hl (by decide) rfl (fun ls hl => ?_)
          refine lv_iconst (v := 0) hx hb dL_isSo_49 (by decide) ?_
          refine lv_istore (lv' := [(5, .int 0), (4, .int 0), (3, .int 1), (0, .ref ax), (1, .ref rx), (2, .ref rq)]) hx hb dL_isSo_50 hl (by decide) rfl (fun ls hl => ?_)
          have lp : ∀ (n9 : Nat) (i : Nat) (cv : Nat), i ≤ 16 → cv = zNum own oth mm i → 16 - i < n9 → ∀ (H : Heap) (locs : List Loc), va_P (dC, dI) vwCl [(ax, .inr (2, [.ref a0, .ref a1, .ref ae, .ref aw, .int (nI k), .int (nI tn), .int mk, .int wn, .int cnt])), (ao, .inr (1, [.long (lN own), .int lo])), (aq, .inr (1, [.long (lN oth), .int lq])), (rx, .inl (cyI, 32, .inl F)), (rq, .inl (cyI, 7, .inl Qf))] H → va_S zF s.heap H locs → ∀ ls : Array Slot, lv_has ls 7 [(5, .int (nI i)), (4, .int (nI cv)), (3, .int 1), (0, .ref ax), (1, .ref rx), (2, .ref rq)] → W p l e (headSpec wsL_isSo ({ frames := 4, cells := 0, slots := 0, locals := 95 })).room s m ([.ref ax, .ref rx, .ref rq] : List Value).toArray below meth c H locs 0 0 Q (F0 m 52 ls []) := by
            intro n9
            induction n9 with
            | zero => intro i cv hi2 hcv hm9; exact absurd hm9 (Nat.not_lt_zero _)
            | succ n9 ih52 =>
              intro i cv hi2 hcv hm9 H locs hP hS ls hl
              refine lv_iload hx hb dL_isSo_52 (lv_at hl 0 rfl) ?_
              refine lv_bipush (v := 16) hx hb dL_isSo_54 (by decide) ?_
              refine lv_icmp_ge (tgt := 214) hx hb dL_isSo_56 (by decide) (fun c_56 => ?_) (fun c_56 => ?_)
              · skip
                have c_56 : 16 ≤ i := (nI_leI (a := 16) (b := i) (by omega) (by omega)).mp c_56
                refine lv_iload_n hx hb dL_isSo_214 rfl (lv_at hl 2 rfl) ?_
                refine lv_if_eq (tgt := 299) hx hb dL_isSo_215 (by decide) (fun c9 => absurd c9 (by decide)) (fun _ => ?_)
                refine lv_aload_n hx hb dL_isSo_218 rfl (lv_at hl 3 rfl) ?_
                refine zro_i (va_runV (As := []) (rest := []) ⟨hx, hb, hml, hown, hts⟩ (c_X5_moves l dC dI cyI cyJ ax a0 a1 ae aw ao aq mk wn cnt lo lq k tn own oth hsd hO hQ mm hmk hmm) (cwV 0 hts gL_isSo_X5_moves rfl rfl rfl (by decide +kernel) ⟨Nat.le_of_ble_eq_true rfl, Nat.le_of_ble_eq_true rfl⟩) (zPc_V (ci := 2) (q0 := 0) zB_T hP hK rfl rfl [0, 1, 2] rfl (fun _ _ _ => trivial)) rfl rfl hl.1 rfl (lv_room (Nat.le_of_ble_eq_true rfl)) dL_isSo_219 ⟨Nat.zero_le _, Nat.zero_le _⟩) hP hS (fun H locs hP hS => ?_)
                refine lv_iload hx hb dL_isSo_222 (lv_at hl 1 rfl) ?_
                refine lv_icmp_ne (tgt := 299) hx hb dL_isSo_224 (by decide) (fun c_224 => ?_) (fun c_224 => ?_)
                · skip
                  exact absurd (by rw [hcv, show i = 16 by omega, zNum_16]) c_224
                · skip
                  refine lv_aload_n hx hb dL_isSo_227 rfl (lv_at hl 3 rfl) ?_
                  refine lv_iload hx hb dL_isSo_228 (lv_at hl 1 rfl) ?_
                  refine zro_i (va_runV (As := [.int (nI cv)]) (rest := []) ⟨hx, hb, hml, hown, hts⟩ (c_X5_moveAt l dC dI cyI cyJ ax a0 a1 ae aw ao aq mk wn cnt lo lq k tn own oth hsd hO hQ mm (nI cv) hmk hmm) (cwV 1 hts gL_isSo_X5_moveAt rfl rfl rfl (by decide +kernel) ⟨Nat.le_of_ble_eq_true rfl, Nat.le_of_ble_eq_true rfl⟩) (zPc_V (ci := 2) (q0 := 0) zB_T hP hK rfl rfl [0, 1, 2] rfl (fun _ _ _ => trivial)) rfl rfl hl.1 rfl (lv_room (Nat.le_of_ble_eq_true rfl)) dL_isSo_230 ⟨Nat.zero_le _, Nat.zero_le _⟩) hP hS (fun H locs hP hS => ?_)
                  refine lv_iconst (v := -1) hx hb dL_isSo_233 (by decide) ?_
                  refine lv_icmp_ne (tgt := 299) hx hb dL_isSo_234 (by decide) (fun c_234 => ?_) (fun c_234 => ?_)
                  · skip
                    exact absurd (by rw [hcv, show i = 16 by omega, zNum_16]; exact zMA_end) c_234
                  · skip
                    refine lv_aload_n hx hb dL_isSo_237 rfl (lv_at hl 3 rfl) ?_
                    refine lv_iconst (v := -1) hx hb dL_isSo_238 (by decide) ?_
                    refine zro_i (va_runV (As := [.int (-1)]) (rest := []) ⟨hx, hb, hml, hown, hts⟩ (c_X5_moveAt l dC dI cyI cyJ ax a0 a1 ae aw ao aq mk wn cnt lo lq k tn own oth hsd hO hQ mm (-1) hmk hmm) (cwV 1 hts gL_isSo_X5_moveAt rfl rfl rfl (by decide +kernel) ⟨Nat.le_of_ble_eq_true rfl, Nat.le_of_ble_eq_true rfl⟩) (zPc_V (ci := 2) (q0 := 0) zB_T hP hK rfl rfl [0, 1, 2] rfl (fun _ _ _ => trivial)) rfl rfl hl.1 rfl (lv_room (Nat.le_of_ble_eq_true rfl)) dL_isSo_239 ⟨Nat.zero_le _, Nat.zero_le _⟩) hP hS (fun H locs hP hS => ?_)
                    refine lv_iconst (v := -1) hx hb dL_isSo_242 (by decide) ?_
                    refine lv_icmp_ne (tgt := 299) hx hb dL_isSo_243 (by decide) (fun c_243 => ?_) (fun c_243 => ?_)
                    · skip
                      exact absurd (zMA_neg (by decide)) c_243
                    · skip
                      refine lv_aload_n hx hb dL_isSo_246 rfl (lv_at hl 3 rfl) ?_
                      refine lv_iconst (v := 0) hx hb dL_isSo_247 (by decide) ?_
                      refine zro_i (va_runV (As := [.int 0]) (rest := []) ⟨hx, hb, hml, hown, hts⟩ (c_X5_progress_ok l dC dI cyI cyJ ax a0 a1 ae aw ao aq mk wn cnt lo lq k tn own oth mm hsd hO hQ hmk hmm 0 (by omega)) (cwV 1 hts gL_isSo_X5_progress rfl rfl rfl (by decide +kernel) ⟨Nat.le_of_ble_eq_true rfl, Nat.le_of_ble_eq_true rfl⟩) (zPc_V (ci := 2) (q0 := 0) zB_T hP hK rfl rfl [0, 1, 2] rfl (fun _ _ _ => trivial)) rfl rfl hl.1 rfl (lv_room (Nat.le_of_ble_eq_true rfl)) dL_isSo_248 ⟨Nat.zero_le _, Nat.zero_le _⟩) hP hS (fun H locs hP hS => ?_)
                      refine lv_aload_n hx hb dL_isSo_251 rfl (lv_at hl 4 rfl) ?_
                      refine lv_iconst (v := 0) hx hb dL_isSo_252 (by decide) ?_
                      refine zro_i (va_runS (As := [.ref rx, .int 0]) (rest := [.int (nI (psum (if 0 = tn then own else oth) 16))]) ⟨hx, hb, hml, hown, hts⟩ (c_L_progress l dC dI cyI cyJ rx F 0 (if 0 = tn then own else oth) (by omega) (zRow_half htn hr9 (by omega))) (va_cwS 2 hts gL_isSo_L_progress rfl rfl rfl (by decide +kernel) ⟨Nat.le_of_ble_eq_true rfl, Nat.le_of_ble_eq_true rfl⟩) (zPc_S zB_T hP hK [3] rfl (fun _ _ _ => trivial)) rfl rfl hl.1 rfl (lv_room (Nat.le_of_ble_eq_true rfl)) dL_isSo_253 ⟨Nat.zero_le _, Nat.zero_le _⟩) hP hS (fun H locs hP hS => ?_)
                      refine lv_icmp_ne (tgt := 299) hx hb dL_isSo_256 (by decide) (fun c_256 => ?_) (fun c_256 => ?_)
                      · skip
                        exact absurd rfl c_256
                      · skip
                        refine lv_aload_n hx hb dL_isSo_259 rfl (lv_at hl 3 rfl) ?_
                        refine lv_iconst (v := 1) hx hb dL_isSo_260 (by decide) ?_
                        refine zro_i (va_runV (As := [.int 1]) (rest := []) ⟨hx, hb, hml, hown, hts⟩ (c_X5_progress_ok l dC dI cyI cyJ ax a0 a1 ae aw ao aq mk wn cnt lo lq k tn own oth mm hsd hO hQ hmk hmm 1 (by omega)) (cwV 1 hts gL_isSo_X5_progress rfl rfl rfl (by decide +kernel) ⟨Nat.le_of_ble_eq_true rfl, Nat.le_of_ble_eq_true rfl⟩) (zPc_V (ci := 2) (q0 := 0) zB_T hP hK rfl rfl [0, 1, 2] rfl (fun _ _ _ => trivial)) rfl rfl hl.1 rfl (lv_room (Nat.le_of_ble_eq_true rfl)) dL_isSo_261 ⟨Nat.zero_le _, Nat.zero_le _⟩) hP hS (fun H locs hP hS => ?_)
                        refine lv_aload_n hx hb dL_isSo_264 rfl (lv_at hl 4 rfl) ?_
                        refine lv_iconst (v := 1) hx hb dL_isSo_265 (by decide) ?_
                        refine zro_i (va_runS (As := [.ref rx, .int 1]) (rest := [.int (nI (psum (if 1 = tn then own else oth) 16))]) ⟨hx, hb, hml, hown, hts⟩ (c_L_progress l dC dI cyI cyJ rx F 1 (if 1 = tn then own else oth) (by omega) (zRow_half htn hr9 (by omega))) (va_cwS 2 hts gL_isSo_L_progress rfl rfl rfl (by decide +kernel) ⟨Nat.le_of_ble_eq_true rfl, Nat.le_of_ble_eq_true rfl⟩) (zPc_S zB_T hP hK [3] rfl (fun _ _ _ => trivial)) rfl rfl hl.1 rfl (lv_room (Nat.le_of_ble_eq_true rfl)) dL_isSo_266 ⟨Nat.zero_le _, Nat.zero_le _⟩) hP hS (fun H locs hP hS => ?_)
                        refine lv_icmp_ne (tgt := 299) hx hb dL_isSo_269 (by decide) (fun c_269 => ?_) (fun c_269 => ?_)
                        · skip
                          exact absurd rfl c_269
                        · skip
                          refine lv_aload_n hx hb dL_isSo_272 rfl (lv_at hl 3 rfl) ?_
                          refine lv_iconst (v := 0) hx hb dL_isSo_273 (by decide) ?_
                          refine zro_i (va_runV (As := [.int 0]) (rest := []) ⟨hx, hb, hml, hown, hts⟩ (c_X5_captured_ok l dC dI cyI cyJ ax a0 a1 ae aw ao aq mk wn cnt lo lq k tn own oth mm hsd hO hQ hmk hmm 0 (by omega)) (cwV 1 hts gL_isSo_X5_captured rfl rfl rfl (by decide +kernel) ⟨Nat.le_of_ble_eq_true rfl, Nat.le_of_ble_eq_true rfl⟩) (zPc_V (ci := 2) (q0 := 0) zB_T hP hK rfl rfl [0, 1, 2] rfl (fun _ _ _ => trivial)) rfl rfl hl.1 rfl (lv_room (Nat.le_of_ble_eq_true rfl)) dL_isSo_274 ⟨Nat.zero_le _, Nat.zero_le _⟩) hP hS (fun H locs hP hS => ?_)
                          refine lv_aload_n hx hb dL_isSo_277 rfl (lv_at hl 5 rfl) ?_
                          refine lv_iconst (v := 5) hx hb dL_isSo_278 (by decide) ?_
                          refine zi_iald hx hb hK hP 4 0 rfl rfl (j := 5) rfl (by omega) (by decide) dL_isSo_279 ?_
                          refine lv_icmp_ne (tgt := 299) hx hb dL_isSo_280 (by decide) (fun c_280 => ?_) (fun c_280 => ?_)
                          · skip
                            exact absurd (zQ5 htn hq) c_280
                          · skip
                            refine lv_aload_n hx hb dL_isSo_283 rfl (lv_at hl 3 rfl) ?_
                            refine lv_iconst (v := 1) hx hb dL_isSo_284 (by decide) ?_
                            refine zro_i (va_runV (As := [.int 1]) (rest := []) ⟨hx, hb, hml, hown, hts⟩ (c_X5_captured_ok l dC dI cyI cyJ ax a0 a1 ae aw ao aq mk wn cnt lo lq k tn own oth mm hsd hO hQ hmk hmm 1 (by omega)) (cwV 1 hts gL_isSo_X5_captured rfl rfl rfl (by decide +kernel) ⟨Nat.le_of_ble_eq_true rfl, Nat.le_of_ble_eq_true rfl⟩) (zPc_V (ci := 2) (q0 := 0) zB_T hP hK rfl rfl [0, 1, 2] rfl (fun _ _ _ => trivial)) rfl rfl hl.1 rfl (lv_room (Nat.le_of_ble_eq_true rfl)) dL_isSo_285 ⟨Nat.zero_le _, Nat.zero_le _⟩) hP hS (fun H locs hP hS => ?_)
                            refine lv_aload_n hx hb dL_isSo_288 rfl (lv_at hl 5 rfl) ?_
                            refine lv_bipush (v := 6) hx hb dL_isSo_289 (by decide) ?_
                            refine zi_iald hx hb hK hP 4 0 rfl rfl (j := 6) rfl (by omega) (by decide) dL_isSo_291 ?_
                            refine lv_icmp_ne (tgt := 299) hx hb dL_isSo_292 (by decide) (fun c_292 => ?_) (fun c_292 => ?_)
                            · skip
                              exact absurd (zQ6 htn hq) c_292
                            · skip
                              refine lv_iconst (v := 1) hx hb dL_isSo_295 (by decide) ?_
                              refine lv_goto (tgt := 300) hx hb dL_isSo_296 (by decide) ?_
                              subst hQe
                              exact W.zret (v := 1) hx hb hr rfl (fun t ht hW => ⟨⟨_, (), rfl, rfl, trivial⟩, hS.F ht⟩) hS.2.2 dL_isSo_300
              · skip
                have c_56 : ¬ 16 ≤ i := fun h9 => c_56 ((nI_leI (a := 16) (b := i) (by omega) (by omega)).mpr h9)
                refine lv_iload_n hx hb dL_isSo_59 rfl (lv_at hl 2 rfl) ?_
                refine lv_if_eq (tgt := 214) hx hb dL_isSo_60 (by decide) (fun c9 => absurd c9 (by decide)) (fun _ => ?_)
                refine lv_iload hx hb dL_isSo_63 (lv_at hl 0 rfl) ?_
                refine lv_bipush (v := 15) hx hb dL_isSo_65 (by decide) ?_
                refine lv_icmp_ge (tgt := 95) hx hb dL_isSo_67 (by decide) (fun c_67 => ?_) (fun c_67 => ?_)
                · skip
                  have c_67 : 15 ≤ i := (nI_leI (a := 15) (b := i) (by omega) (by omega)).mp c_67
                  refine lv_iconst (v := 0) hx hb dL_isSo_95 (by decide) ?_
                  refine lv_istore (lv' := [(6, .int 0), (5, .int (nI i)), (4, .int (nI cv)), (3, .int 1), (0, .ref ax), (1, .ref rx), (2, .ref rq)]) hx hb dL_isSo_96 hl (by decide) rfl (fun ls hl => ?_)
                  refine lv_aload_n hx hb dL_isSo_98 rfl (lv_at hl 4 rfl) ?_
                  refine lv_iconst (v := 0) hx hb dL_isSo_99 (by decide) ?_
                  refine lv_iload hx hb dL_isSo_100 (lv_at hl 1 rfl) ?_
                  refine zro_i (va_runV (As := [.int 0, .int (nI i)]) (rest := []) ⟨hx, hb, hml, hown, hts⟩ (c_X5_at_ok l dC dI cyI cyJ ax a0 a1 ae aw ao aq mk wn cnt lo lq k tn own oth mm hsd hO hQ hmk hmm 0 i (by omega) (by omega)) (cwV 2 hts gL_isSo_X5_at rfl rfl rfl (by decide +kernel) ⟨Nat.le_of_ble_eq_true rfl, Nat.le_of_ble_eq_true rfl⟩) (zPc_V (ci := 2) (q0 := 0) zB_T hP hK rfl rfl [0, 1, 2] rfl (fun _ _ _ => trivial)) rfl rfl hl.1 rfl (lv_room (Nat.le_of_ble_eq_true rfl)) dL_isSo_102 ⟨Nat.zero_le _, Nat.zero_le _⟩) hP hS (fun H locs hP hS => ?_)
                  refine lv_aload_n hx hb dL_isSo_105 rfl (lv_at hl 5 rfl) ?_
                  refine lv_iload hx hb dL_isSo_106 (lv_at hl 1 rfl) ?_
                  refine zi_iald hx hb hK hP 3 0 rfl rfl (j := i) rfl (by omega) (by decide) dL_isSo_108 ?_
                  refine zz_i (y := nI (dg (if 0 = tn then own else oth) i)) (zsel0 htn hr9 (by omega)) ?_
                  refine lv_icmp_ne (tgt := 191) hx hb dL_isSo_109 (by decide) (fun c_109 => ?_) (fun c_109 => ?_)
                  · skip
                    exact absurd rfl c_109
                  · skip
                    refine lv_aload_n hx hb dL_isSo_112 rfl (lv_at hl 4 rfl) ?_
                    refine lv_iconst (v := 1) hx hb dL_isSo_113 (by decide) ?_
                    refine lv_iload hx hb dL_isSo_114 (lv_at hl 1 rfl) ?_
                    refine zro_i (va_runV (As := [.int 1, .int (nI i)]) (rest := []) ⟨hx, hb, hml, hown, hts⟩ (c_X5_at_ok l dC dI cyI cyJ ax a0 a1 ae aw ao aq mk wn cnt lo lq k tn own oth mm hsd hO hQ hmk hmm 1 i (by omega) (by omega)) (cwV 2 hts gL_isSo_X5_at rfl rfl rfl (by decide +kernel) ⟨Nat.le_of_ble_eq_true rfl, Nat.le_of_ble_eq_true rfl⟩) (zPc_V (ci := 2) (q0 := 0) zB_T hP hK rfl rfl [0, 1, 2] rfl (fun _ _ _ => trivial)) rfl rfl hl.1 rfl (lv_room (Nat.le_of_ble_eq_true rfl)) dL_isSo_116 ⟨Nat.zero_le _, Nat.zero_le _⟩) hP hS (fun H locs hP hS => ?_)
                    refine lv_aload_n hx hb dL_isSo_119 rfl (lv_at hl 5 rfl) ?_
                    refine lv_bipush (v := 16) hx hb dL_isSo_120 (by decide) ?_
                    refine lv_iload hx hb dL_isSo_122 (lv_at hl 1 rfl) ?_
                    refine lv_iadd hx hb dL_isSo_124 ?_
                    refine zz_i (y := nI (16 + i)) (nI_add 16 i) ?_
                    refine zi_iald hx hb hK hP 3 0 rfl rfl (j := 16 + i) rfl (by omega) (by decide) dL_isSo_125 ?_
                    refine zz_i (y := nI (dg (if 1 = tn then own else oth) i)) (zsel1 htn hr9 (by omega)) ?_
                    refine lv_icmp_ne (tgt := 191) hx hb dL_isSo_126 (by decide) (fun c_126 => ?_) (fun c_126 => ?_)
                    · skip
                      exact absurd rfl c_126
                    · skip
                      refine lv_iload hx hb dL_isSo_129 (lv_at hl 1 rfl) ?_
                      refine lv_bipush (v := 15) hx hb dL_isSo_131 (by decide) ?_
                      refine lv_icmp_eq (tgt := 171) hx hb dL_isSo_133 (by decide) (fun c_133 => ?_) (fun c_133 => ?_)
                      · skip
                        have c_133 : i = 15 := (nI_eq (a := i) (b := 15) (by omega) (by omega)).mp c_133
                        refine lv_iload hx hb dL_isSo_171 (lv_at hl 0 rfl) ?_
                        refine lv_if_eq (tgt := 187) hx hb dL_isSo_173 (by decide) (fun _ => ?_) (fun c9 => absurd c9 (by decide))
                        refine lv_iconst (v := 1) hx hb dL_isSo_187 (by decide) ?_
                        refine lv_goto (tgt := 192) hx hb dL_isSo_188 (by decide) ?_
                        refine lv_istore_n (lv' := [(3, .int 1), (6, .int 0), (5, .int (nI i)), (4, .int (nI cv)), (0, .ref ax), (1, .ref rx), (2, .ref rq)]) hx hb dL_isSo_192 rfl hl (by decide) rfl (fun ls hl => ?_)
                        refine lv_iload hx hb dL_isSo_193 (lv_at hl 3 rfl) ?_
                        refine lv_iload hx hb dL_isSo_195 (lv_at hl 1 rfl) ?_
                        refine lv_if_eq (tgt := 204) hx hb dL_isSo_197 (by decide) (fun _ => ?_) (fun c9 => absurd c9 (by decide))
                        refine lv_iconst (v := 0) hx hb dL_isSo_204 (by decide) ?_
                        refine lv_iadd hx hb dL_isSo_205 ?_
                        refine zz_i (y := nI (cv + 0)) (nI_add cv 0) ?_
                        refine lv_istore (lv' := [(4, .int (nI (cv + 0))), (3, .int 1), (6, .int 0), (5, .int (nI i)), (0, .ref ax), (1, .ref rx), (2, .ref rq)]) hx hb dL_isSo_206 hl (by decide) rfl (fun ls hl => ?_)
                        refine lv_iinc (v := nI (i + 1)) (lv' := [(5, .int (nI (i + 1))), (4, .int (nI (cv + 0))), (3, .int 1), (6, .int 0), (0, .ref ax), (1, .ref rx), (2, .ref rq)]) hx hb dL_isSo_208 hl (k := 3) rfl (nI_1 i) (by decide) rfl (fun ls hl => ?_)
                        refine lv_goto (tgt := 52) hx hb dL_isSo_211 (by decide) ?_
                        exact ih52 (i + 1) _ (by omega) (by rw [zNum_s, if_neg (by rw [zcm_no1 (by omega)]; decide), hcv]) (by omega) _ _ hP hS _ (lv_sub hl [0, 1, 2, 4, 5, 6] rfl)
                      · skip
                        have c_133 : ¬ i = 15 := fun h9 => c_133 ((nI_eq (a := i) (b := 15) (by omega) (by omega)).mpr h9)
                        exact absurd (by omega) c_133
                · skip
                  have c_67 : ¬ 15 ≤ i := fun h9 => c_67 ((nI_leI (a := 15) (b := i) (by omega) (by omega)).mpr h9)
                  refine lv_aload_n hx hb dL_isSo_70 rfl (lv_at hl 5 rfl) ?_
                  refine lv_iconst (v := 2) hx hb dL_isSo_71 (by decide) ?_
                  refine zi_iald hx hb hK hP 4 0 rfl rfl (j := 2) rfl (by omega) (by decide) dL_isSo_72 ?_
                  refine zz_i (y := mk) hq.2.2.1 ?_
                  refine lv_if_lt (tgt := 95) hx hb dL_isSo_73 (by decide) (fun c_73 => ?_) (fun c_73 => ?_)
                  · skip
                    have c_73 : mk = -1 := (zmk_neg hmk hmm).mp c_73
                    refine lv_iconst (v := 0) hx hb dL_isSo_95 (by decide) ?_
                    refine lv_istore (lv' := [(6, .int 0), (5, .int (nI i)), (4, .int (nI cv)), (3, .int 1), (0, .ref ax), (1, .ref rx), (2, .ref rq)]) hx hb dL_isSo_96 hl (by decide) rfl (fun ls hl => ?_)
                    refine lv_aload_n hx hb dL_isSo_98 rfl (lv_at hl 4 rfl) ?_
                    refine lv_iconst (v := 0) hx hb dL_isSo_99 (by decide) ?_
                    refine lv_iload hx hb dL_isSo_100 (lv_at hl 1 rfl) ?_
                    refine zro_i (va_runV (As := [.int 0, .int (nI i)]) (rest := []) ⟨hx, hb, hml, hown, hts⟩ (c_X5_at_ok l dC dI cyI cyJ ax a0 a1 ae aw ao aq mk wn cnt lo lq k tn own oth mm hsd hO hQ hmk hmm 0 i (by omega) (by omega)) (cwV 2 hts gL_isSo_X5_at rfl rfl rfl (by decide +kernel) ⟨Nat.le_of_ble_eq_true rfl, Nat.le_of_ble_eq_true rfl⟩) (zPc_V (ci := 2) (q0 := 0) zB_T hP hK rfl rfl [0, 1, 2] rfl (fun _ _ _ => trivial)) rfl rfl hl.1 rfl (lv_room (Nat.le_of_ble_eq_true rfl)) dL_isSo_102 ⟨Nat.zero_le _, Nat.zero_le _⟩) hP hS (fun H locs hP hS => ?_)
                    refine lv_aload_n hx hb dL_isSo_105 rfl (lv_at hl 5 rfl) ?_
                    refine lv_iload hx hb dL_isSo_106 (lv_at hl 1 rfl) ?_
                    refine zi_iald hx hb hK hP 3 0 rfl rfl (j := i) rfl (by omega) (by decide) dL_isSo_108 ?_
                    refine zz_i (y := nI (dg (if 0 = tn then own else oth) i)) (zsel0 htn hr9 (by omega)) ?_
                    refine lv_icmp_ne (tgt := 191) hx hb dL_isSo_109 (by decide) (fun c_109 => ?_) (fun c_109 => ?_)
                    · skip
                      exact absurd rfl c_109
                    · skip
                      refine lv_aload_n hx hb dL_isSo_112 rfl (lv_at hl 4 rfl) ?_
                      refine lv_iconst (v := 1) hx hb dL_isSo_113 (by decide) ?_
                      refine lv_iload hx hb dL_isSo_114 (lv_at hl 1 rfl) ?_
                      refine zro_i (va_runV (As := [.int 1, .int (nI i)]) (rest := []) ⟨hx, hb, hml, hown, hts⟩ (c_X5_at_ok l dC dI cyI cyJ ax a0 a1 ae aw ao aq mk wn cnt lo lq k tn own oth mm hsd hO hQ hmk hmm 1 i (by omega) (by omega)) (cwV 2 hts gL_isSo_X5_at rfl rfl rfl (by decide +kernel) ⟨Nat.le_of_ble_eq_true rfl, Nat.le_of_ble_eq_true rfl⟩) (zPc_V (ci := 2) (q0 := 0) zB_T hP hK rfl rfl [0, 1, 2] rfl (fun _ _ _ => trivial)) rfl rfl hl.1 rfl (lv_room (Nat.le_of_ble_eq_true rfl)) dL_isSo_116 ⟨Nat.zero_le _, Nat.zero_le _⟩) hP hS (fun H locs hP hS => ?_)
                      refine lv_aload_n hx hb dL_isSo_119 rfl (lv_at hl 5 rfl) ?_
                      refine lv_bipush (v := 16) hx hb dL_isSo_120 (by decide) ?_
                      refine lv_iload hx hb dL_isSo_122 (lv_at hl 1 rfl) ?_
                      refine lv_iadd hx hb dL_isSo_124 ?_
                      refine zz_i (y := nI (16 + i)) (nI_add 16 i) ?_
                      refine zi_iald hx hb hK hP 3 0 rfl rfl (j := 16 + i) rfl (by omega) (by decide) dL_isSo_125 ?_
                      refine zz_i (y := nI (dg (if 1 = tn then own else oth) i)) (zsel1 htn hr9 (by omega)) ?_
                      refine lv_icmp_ne (tgt := 191) hx hb dL_isSo_126 (by decide) (fun c_126 => ?_) (fun c_126 => ?_)
                      · skip
                        exact absurd rfl c_126
                      · skip
                        refine lv_iload hx hb dL_isSo_129 (lv_at hl 1 rfl) ?_
                        refine lv_bipush (v := 15) hx hb dL_isSo_131 (by decide) ?_
                        refine lv_icmp_eq (tgt := 171) hx hb dL_isSo_133 (by decide) (fun c_133 => ?_) (fun c_133 => ?_)
                        · skip
                          have c_133 : i = 15 := (nI_eq (a := i) (b := 15) (by omega) (by omega)).mp c_133
                          exact absurd c_133 (by omega)
                        · skip
                          have c_133 : ¬ i = 15 := fun h9 => c_133 ((nI_eq (a := i) (b := 15) (by omega) (by omega)).mpr h9)
                          refine lv_aload_n hx hb dL_isSo_136 rfl (lv_at hl 4 rfl) ?_
                          refine lv_iload hx hb dL_isSo_137 (lv_at hl 1 rfl) ?_
                          refine zro_i (va_runV (As := [.int (nI i)]) (rest := []) ⟨hx, hb, hml, hown, hts⟩ (c_X5_captures_ok l dC dI cyI cyJ ax a0 a1 ae aw ao aq mk wn cnt lo lq k tn own oth mm hsd hO hQ hmk hmm i (by omega)) (cwV 1 hts gL_isSo_X5_captures rfl rfl rfl (by decide +kernel) ⟨Nat.le_of_ble_eq_true rfl, Nat.le_of_ble_eq_true rfl⟩) (zPc_V (ci := 2) (q0 := 0) zB_T hP hK rfl rfl [0, 1, 2] rfl (fun _ _ _ => trivial)) rfl rfl hl.1 rfl (lv_room (Nat.le_of_ble_eq_true rfl)) dL_isSo_139 ⟨Nat.zero_le _, Nat.zero_le _⟩) hP hS (fun H locs hP hS => ?_)
                          refine lv_iload hx hb dL_isSo_142 (lv_at hl 0 rfl) ?_
                          refine lv_if_eq (tgt := 167) hx hb dL_isSo_144 (by decide) (fun _ => ?_) (fun c9 => absurd c9 (by decide))
                          refine lv_iconst (v := 0) hx hb dL_isSo_167 (by decide) ?_
                          refine lv_icmp_ne (tgt := 191) hx hb dL_isSo_168 (by decide) (fun c_168 => ?_) (fun c_168 => ?_)
                          · skip
                            exact absurd (by rw [zmk_0 hmk hmm c_73, zcm_0]; rfl) c_168
                          · skip
                            refine lv_iload hx hb dL_isSo_171 (lv_at hl 0 rfl) ?_
                            refine lv_if_eq (tgt := 187) hx hb dL_isSo_173 (by decide) (fun _ => ?_) (fun c9 => absurd c9 (by decide))
                            refine lv_iconst (v := 1) hx hb dL_isSo_187 (by decide) ?_
                            refine lv_goto (tgt := 192) hx hb dL_isSo_188 (by decide) ?_
                            refine lv_istore_n (lv' := [(3, .int 1), (6, .int 0), (5, .int (nI i)), (4, .int (nI cv)), (0, .ref ax), (1, .ref rx), (2, .ref rq)]) hx hb dL_isSo_192 rfl hl (by decide) rfl (fun ls hl => ?_)
                            refine lv_iload hx hb dL_isSo_193 (lv_at hl 3 rfl) ?_
                            refine lv_iload hx hb dL_isSo_195 (lv_at hl 1 rfl) ?_
                            refine lv_if_eq (tgt := 204) hx hb dL_isSo_197 (by decide) (fun _ => ?_) (fun c9 => absurd c9 (by decide))
                            refine lv_iconst (v := 0) hx hb dL_isSo_204 (by decide) ?_
                            refine lv_iadd hx hb dL_isSo_205 ?_
                            refine zz_i (y := nI (cv + 0)) (nI_add cv 0) ?_
                            refine lv_istore (lv' := [(4, .int (nI (cv + 0))), (3, .int 1), (6, .int 0), (5, .int (nI i)), (0, .ref ax), (1, .ref rx), (2, .ref rq)]) hx hb dL_isSo_206 hl (by decide) rfl (fun ls hl => ?_)
                            refine lv_iinc (v := nI (i + 1)) (lv' := [(5, .int (nI (i + 1))), (4, .int (nI (cv + 0))), (3, .int 1), (6, .int 0), (0, .ref ax), (1, .ref rx), (2, .ref rq)]) hx hb dL_isSo_208 hl (k := 3) rfl (nI_1 i) (by decide) rfl (fun ls hl => ?_)
                            refine lv_goto (tgt := 52) hx hb dL_isSo_211 (by decide) ?_
                            exact ih52 (i + 1) _ (by omega) (by rw [zNum_s, if_neg (by rw [zmk_0 hmk hmm c_73, zcm_0]; decide), hcv]) (by omega) _ _ hP hS _ (lv_sub hl [0, 1, 2, 4, 5, 6] rfl)
                  · skip
                    have c_73 : ¬ mk = -1 := fun h9 => c_73 ((zmk_neg hmk hmm).mpr h9)
                    refine lv_aload_n hx hb dL_isSo_76 rfl (lv_at hl 4 rfl) ?_
                    refine lv_aload_n hx hb dL_isSo_77 rfl (lv_at hl 5 rfl) ?_
                    refine lv_iconst (v := 1) hx hb dL_isSo_78 (by decide) ?_
                    refine zi_iald hx hb hK hP 4 0 rfl rfl (j := 1) rfl (by omega) (by decide) dL_isSo_79 ?_
                    refine zz_i (y := nI tn) hq.2.1 ?_
                    refine lv_iload hx hb dL_isSo_80 (lv_at hl 0 rfl) ?_
                    refine lv_aload_n hx hb dL_isSo_82 rfl (lv_at hl 5 rfl) ?_
                    refine lv_iconst (v := 2) hx hb dL_isSo_83 (by decide) ?_
                    refine zi_iald hx hb hK hP 4 0 rfl rfl (j := 2) rfl (by omega) (by decide) dL_isSo_84 ?_
                    refine zz_i (y := nI mm) (hq.2.2.1.trans (zmk_ne hmk c_73)) ?_
                    refine zro_i (va_runS (As := [.ref rx, .int (nI tn), .int (nI i), .int (nI mm)]) (rest := []) ⟨hx, hb, hml, hown, hts⟩ (c_L_can l dC dI cyI cyJ rx F tn own oth (by omega) hr9 i mm (by omega) (by omega)) (va_cwS 4 hts gL_isSo_L_can rfl rfl rfl (by decide +kernel) ⟨Nat.le_of_ble_eq_true rfl, Nat.le_of_ble_eq_true rfl⟩) (zPc_S zB_T hP hK [3] rfl (fun _ _ _ => trivial)) rfl rfl hl.1 rfl (lv_room (Nat.le_of_ble_eq_true rfl)) dL_isSo_85 ⟨Nat.zero_le _, Nat.zero_le _⟩) hP hS (fun H locs hP hS => ?_)
                    refine lv_if_eq (tgt := 95) hx hb dL_isSo_88 (by decide) (fun c_88 => ?_) (fun c_88 => ?_)
                    · skip
                      have c_88 := bI_0.mp c_88
                      refine lv_iconst (v := 0) hx hb dL_isSo_95 (by decide) ?_
                      refine lv_istore (lv' := [(6, .int 0), (5, .int (nI i)), (4, .int (nI cv)), (3, .int 1), (0, .ref ax), (1, .ref rx), (2, .ref rq)]) hx hb dL_isSo_96 hl (by decide) rfl (fun ls hl => ?_)
                      refine lv_aload_n hx hb dL_isSo_98 rfl (lv_at hl 4 rfl) ?_
                      refine lv_iconst (v := 0) hx hb dL_isSo_99 (by decide) ?_
                      refine lv_iload hx hb dL_isSo_100 (lv_at hl 1 rfl) ?_
                      refine zro_i (va_runV (As := [.int 0, .int (nI i)]) (rest := []) ⟨hx, hb, hml, hown, hts⟩ (c_X5_at_ok l dC dI cyI cyJ ax a0 a1 ae aw ao aq mk wn cnt lo lq k tn own oth mm hsd hO hQ hmk hmm 0 i (by omega) (by omega)) (cwV 2 hts gL_isSo_X5_at rfl rfl rfl (by decide +kernel) ⟨Nat.le_of_ble_eq_true rfl, Nat.le_of_ble_eq_true rfl⟩) (zPc_V (ci := 2) (q0 := 0) zB_T hP hK rfl rfl [0, 1, 2] rfl (fun _ _ _ => trivial)) rfl rfl hl.1 rfl (lv_room (Nat.le_of_ble_eq_true rfl)) dL_isSo_102 ⟨Nat.zero_le _, Nat.zero_le _⟩) hP hS (fun H locs hP hS => ?_)
                      refine lv_aload_n hx hb dL_isSo_105 rfl (lv_at hl 5 rfl) ?_
                      refine lv_iload hx hb dL_isSo_106 (lv_at hl 1 rfl) ?_
                      refine zi_iald hx hb hK hP 3 0 rfl rfl (j := i) rfl (by omega) (by decide) dL_isSo_108 ?_
                      refine zz_i (y := nI (dg (if 0 = tn then own else oth) i)) (zsel0 htn hr9 (by omega)) ?_
                      refine lv_icmp_ne (tgt := 191) hx hb dL_isSo_109 (by decide) (fun c_109 => ?_) (fun c_109 => ?_)
                      · skip
                        exact absurd rfl c_109
                      · skip
                        refine lv_aload_n hx hb dL_isSo_112 rfl (lv_at hl 4 rfl) ?_
                        refine lv_iconst (v := 1) hx hb dL_isSo_113 (by decide) ?_
                        refine lv_iload hx hb dL_isSo_114 (lv_at hl 1 rfl) ?_
                        refine zro_i (va_runV (As := [.int 1, .int (nI i)]) (rest := []) ⟨hx, hb, hml, hown, hts⟩ (c_X5_at_ok l dC dI cyI cyJ ax a0 a1 ae aw ao aq mk wn cnt lo lq k tn own oth mm hsd hO hQ hmk hmm 1 i (by omega) (by omega)) (cwV 2 hts gL_isSo_X5_at rfl rfl rfl (by decide +kernel) ⟨Nat.le_of_ble_eq_true rfl, Nat.le_of_ble_eq_true rfl⟩) (zPc_V (ci := 2) (q0 := 0) zB_T hP hK rfl rfl [0, 1, 2] rfl (fun _ _ _ => trivial)) rfl rfl hl.1 rfl (lv_room (Nat.le_of_ble_eq_true rfl)) dL_isSo_116 ⟨Nat.zero_le _, Nat.zero_le _⟩) hP hS (fun H locs hP hS => ?_)
                        refine lv_aload_n hx hb dL_isSo_119 rfl (lv_at hl 5 rfl) ?_
                        refine lv_bipush (v := 16) hx hb dL_isSo_120 (by decide) ?_
                        refine lv_iload hx hb dL_isSo_122 (lv_at hl 1 rfl) ?_
                        refine lv_iadd hx hb dL_isSo_124 ?_
                        refine zz_i (y := nI (16 + i)) (nI_add 16 i) ?_
                        refine zi_iald hx hb hK hP 3 0 rfl rfl (j := 16 + i) rfl (by omega) (by decide) dL_isSo_125 ?_
                        refine zz_i (y := nI (dg (if 1 = tn then own else oth) i)) (zsel1 htn hr9 (by omega)) ?_
                        refine lv_icmp_ne (tgt := 191) hx hb dL_isSo_126 (by decide) (fun c_126 => ?_) (fun c_126 => ?_)
                        · skip
                          exact absurd rfl c_126
                        · skip
                          refine lv_iload hx hb dL_isSo_129 (lv_at hl 1 rfl) ?_
                          refine lv_bipush (v := 15) hx hb dL_isSo_131 (by decide) ?_
                          refine lv_icmp_eq (tgt := 171) hx hb dL_isSo_133 (by decide) (fun c_133 => ?_) (fun c_133 => ?_)
                          · skip
                            have c_133 : i = 15 := (nI_eq (a := i) (b := 15) (by omega) (by omega)).mp c_133
                            exact absurd c_133 (by omega)
                          · skip
                            have c_133 : ¬ i = 15 := fun h9 => c_133 ((nI_eq (a := i) (b := 15) (by omega) (by omega)).mpr h9)
                            refine lv_aload_n hx hb dL_isSo_136 rfl (lv_at hl 4 rfl) ?_
                            refine lv_iload hx hb dL_isSo_137 (lv_at hl 1 rfl) ?_
                            refine zro_i (va_runV (As := [.int (nI i)]) (rest := []) ⟨hx, hb, hml, hown, hts⟩ (c_X5_captures_ok l dC dI cyI cyJ ax a0 a1 ae aw ao aq mk wn cnt lo lq k tn own oth mm hsd hO hQ hmk hmm i (by omega)) (cwV 1 hts gL_isSo_X5_captures rfl rfl rfl (by decide +kernel) ⟨Nat.le_of_ble_eq_true rfl, Nat.le_of_ble_eq_true rfl⟩) (zPc_V (ci := 2) (q0 := 0) zB_T hP hK rfl rfl [0, 1, 2] rfl (fun _ _ _ => trivial)) rfl rfl hl.1 rfl (lv_room (Nat.le_of_ble_eq_true rfl)) dL_isSo_139 ⟨Nat.zero_le _, Nat.zero_le _⟩) hP hS (fun H locs hP hS => ?_)
                            refine lv_iload hx hb dL_isSo_142 (lv_at hl 0 rfl) ?_
                            refine lv_if_eq (tgt := 167) hx hb dL_isSo_144 (by decide) (fun _ => ?_) (fun c9 => absurd c9 (by decide))
                            refine lv_iconst (v := 0) hx hb dL_isSo_167 (by decide) ?_
                            refine lv_icmp_ne (tgt := 191) hx hb dL_isSo_168 (by decide) (fun c_168 => ?_) (fun c_168 => ?_)
                            · skip
                              exact absurd (by rw [c_88]; rfl) c_168
                            · skip
                              refine lv_iload hx hb dL_isSo_171 (lv_at hl 0 rfl) ?_
                              refine lv_if_eq (tgt := 187) hx hb dL_isSo_173 (by decide) (fun _ => ?_) (fun c9 => absurd c9 (by decide))
                              refine lv_iconst (v := 1) hx hb dL_isSo_187 (by decide) ?_
                              refine lv_goto (tgt := 192) hx hb dL_isSo_188 (by decide) ?_
                              refine lv_istore_n (lv' := [(3, .int 1), (6, .int 0), (5, .int (nI i)), (4, .int (nI cv)), (0, .ref ax), (1, .ref rx), (2, .ref rq)]) hx hb dL_isSo_192 rfl hl (by decide) rfl (fun ls hl => ?_)
                              refine lv_iload hx hb dL_isSo_193 (lv_at hl 3 rfl) ?_
                              refine lv_iload hx hb dL_isSo_195 (lv_at hl 1 rfl) ?_
                              refine lv_if_eq (tgt := 204) hx hb dL_isSo_197 (by decide) (fun _ => ?_) (fun c9 => absurd c9 (by decide))
                              refine lv_iconst (v := 0) hx hb dL_isSo_204 (by decide) ?_
                              refine lv_iadd hx hb dL_isSo_205 ?_
                              refine zz_i (y := nI (cv + 0)) (nI_add cv 0) ?_
                              refine lv_istore (lv' := [(4, .int (nI (cv + 0))), (3, .int 1), (6, .int 0), (5, .int (nI i)), (0, .ref ax), (1, .ref rx), (2, .ref rq)]) hx hb dL_isSo_206 hl (by decide) rfl (fun ls hl => ?_)
                              refine lv_iinc (v := nI (i + 1)) (lv' := [(5, .int (nI (i + 1))), (4, .int (nI (cv + 0))), (3, .int 1), (6, .int 0), (0, .ref ax), (1, .ref rx), (2, .ref rq)]) hx hb dL_isSo_208 hl (k := 3) rfl (nI_1 i) (by decide) rfl (fun ls hl => ?_)
                              refine lv_goto (tgt := 52) hx hb dL_isSo_211 (by decide) ?_
                              exact ih52 (i + 1) _ (by omega) (by rw [zNum_s, if_neg (by rw [c_88]; decide), hcv]) (by omega) _ _ hP hS _ (lv_sub hl [0, 1, 2, 4, 5, 6] rfl)
                    · skip
                      have c_88 := bI_1.mp c_88
                      refine lv_iconst (v := 1) hx hb dL_isSo_91 (by decide) ?_
                      refine lv_goto (tgt := 96) hx hb dL_isSo_92 (by decide) ?_
                      refine lv_istore (lv' := [(6, .int 1), (5, .int (nI i)), (4, .int (nI cv)), (3, .int 1), (0, .ref ax), (1, .ref rx), (2, .ref rq)]) hx hb dL_isSo_96 hl (by decide) rfl (fun ls hl => ?_)
                      refine lv_aload_n hx hb dL_isSo_98 rfl (lv_at hl 4 rfl) ?_
                      refine lv_iconst (v := 0) hx hb dL_isSo_99 (by decide) ?_
                      refine lv_iload hx hb dL_isSo_100 (lv_at hl 1 rfl) ?_
                      refine zro_i (va_runV (As := [.int 0, .int (nI i)]) (rest := []) ⟨hx, hb, hml, hown, hts⟩ (c_X5_at_ok l dC dI cyI cyJ ax a0 a1 ae aw ao aq mk wn cnt lo lq k tn own oth mm hsd hO hQ hmk hmm 0 i (by omega) (by omega)) (cwV 2 hts gL_isSo_X5_at rfl rfl rfl (by decide +kernel) ⟨Nat.le_of_ble_eq_true rfl, Nat.le_of_ble_eq_true rfl⟩) (zPc_V (ci := 2) (q0 := 0) zB_T hP hK rfl rfl [0, 1, 2] rfl (fun _ _ _ => trivial)) rfl rfl hl.1 rfl (lv_room (Nat.le_of_ble_eq_true rfl)) dL_isSo_102 ⟨Nat.zero_le _, Nat.zero_le _⟩) hP hS (fun H locs hP hS => ?_)
                      refine lv_aload_n hx hb dL_isSo_105 rfl (lv_at hl 5 rfl) ?_
                      refine lv_iload hx hb dL_isSo_106 (lv_at hl 1 rfl) ?_
                      refine zi_iald hx hb hK hP 3 0 rfl rfl (j := i) rfl (by omega) (by decide) dL_isSo_108 ?_
                      refine zz_i (y := nI (dg (if 0 = tn then own else oth) i)) (zsel0 htn hr9 (by omega)) ?_
                      refine lv_icmp_ne (tgt := 191) hx hb dL_isSo_109 (by decide) (fun c_109 => ?_) (fun c_109 => ?_)
                      · skip
                        exact absurd rfl c_109
                      · skip
                        refine lv_aload_n hx hb dL_isSo_112 rfl (lv_at hl 4 rfl) ?_
                        refine lv_iconst (v := 1) hx hb dL_isSo_113 (by decide) ?_
                        refine lv_iload hx hb dL_isSo_114 (lv_at hl 1 rfl) ?_
                        refine zro_i (va_runV (As := [.int 1, .int (nI i)]) (rest := []) ⟨hx, hb, hml, hown, hts⟩ (c_X5_at_ok l dC dI cyI cyJ ax a0 a1 ae aw ao aq mk wn cnt lo lq k tn own oth mm hsd hO hQ hmk hmm 1 i (by omega) (by omega)) (cwV 2 hts gL_isSo_X5_at rfl rfl rfl (by decide +kernel) ⟨Nat.le_of_ble_eq_true rfl, Nat.le_of_ble_eq_true rfl⟩) (zPc_V (ci := 2) (q0 := 0) zB_T hP hK rfl rfl [0, 1, 2] rfl (fun _ _ _ => trivial)) rfl rfl hl.1 rfl (lv_room (Nat.le_of_ble_eq_true rfl)) dL_isSo_116 ⟨Nat.zero_le _, Nat.zero_le _⟩) hP hS (fun H locs hP hS => ?_)
                        refine lv_aload_n hx hb dL_isSo_119 rfl (lv_at hl 5 rfl) ?_
                        refine lv_bipush (v := 16) hx hb dL_isSo_120 (by decide) ?_
                        refine lv_iload hx hb dL_isSo_122 (lv_at hl 1 rfl) ?_
                        refine lv_iadd hx hb dL_isSo_124 ?_
                        refine zz_i (y := nI (16 + i)) (nI_add 16 i) ?_
                        refine zi_iald hx hb hK hP 3 0 rfl rfl (j := 16 + i) rfl (by omega) (by decide) dL_isSo_125 ?_
                        refine zz_i (y := nI (dg (if 1 = tn then own else oth) i)) (zsel1 htn hr9 (by omega)) ?_
                        refine lv_icmp_ne (tgt := 191) hx hb dL_isSo_126 (by decide) (fun c_126 => ?_) (fun c_126 => ?_)
                        · skip
                          exact absurd rfl c_126
                        · skip
                          refine lv_iload hx hb dL_isSo_129 (lv_at hl 1 rfl) ?_
                          refine lv_bipush (v := 15) hx hb dL_isSo_131 (by decide) ?_
                          refine lv_icmp_eq (tgt := 171) hx hb dL_isSo_133 (by decide) (fun c_133 => ?_) (fun c_133 => ?_)
                          · skip
                            have c_133 : i = 15 := (nI_eq (a := i) (b := 15) (by omega) (by omega)).mp c_133
                            exact absurd c_133 (by omega)
                          · skip
                            have c_133 : ¬ i = 15 := fun h9 => c_133 ((nI_eq (a := i) (b := 15) (by omega) (by omega)).mpr h9)
                            refine lv_aload_n hx hb dL_isSo_136 rfl (lv_at hl 4 rfl) ?_
                            refine lv_iload hx hb dL_isSo_137 (lv_at hl 1 rfl) ?_
                            refine zro_i (va_runV (As := [.int (nI i)]) (rest := []) ⟨hx, hb, hml, hown, hts⟩ (c_X5_captures_ok l dC dI cyI cyJ ax a0 a1 ae aw ao aq mk wn cnt lo lq k tn own oth mm hsd hO hQ hmk hmm i (by omega)) (cwV 1 hts gL_isSo_X5_captures rfl rfl rfl (by decide +kernel) ⟨Nat.le_of_ble_eq_true rfl, Nat.le_of_ble_eq_true rfl⟩) (zPc_V (ci := 2) (q0 := 0) zB_T hP hK rfl rfl [0, 1, 2] rfl (fun _ _ _ => trivial)) rfl rfl hl.1 rfl (lv_room (Nat.le_of_ble_eq_true rfl)) dL_isSo_139 ⟨Nat.zero_le _, Nat.zero_le _⟩) hP hS (fun H locs hP hS => ?_)
                            refine lv_iload hx hb dL_isSo_142 (lv_at hl 0 rfl) ?_
                            refine lv_if_eq (tgt := 167) hx hb dL_isSo_144 (by decide) (fun c9 => absurd c9 (by decide)) (fun _ => ?_)
                            refine lv_aload_n hx hb dL_isSo_147 rfl (lv_at hl 5 rfl) ?_
                            refine lv_aload_n hx hb dL_isSo_148 rfl (lv_at hl 6 rfl) ?_
                            refine lv_iconst (v := 1) hx hb dL_isSo_149 (by decide) ?_
                            refine zi_iald hx hb hK hP 4 0 rfl rfl (j := 1) rfl (by omega) (by decide) dL_isSo_150 ?_
                            refine zz_i (y := nI tn) hq.2.1 ?_
                            refine lv_iload hx hb dL_isSo_151 (lv_at hl 1 rfl) ?_
                            refine lv_aload_n hx hb dL_isSo_153 rfl (lv_at hl 6 rfl) ?_
                            refine lv_iconst (v := 2) hx hb dL_isSo_154 (by decide) ?_
                            refine zi_iald hx hb hK hP 4 0 rfl rfl (j := 2) rfl (by omega) (by decide) dL_isSo_155 ?_
                            refine zz_i (y := nI mm) (hq.2.2.1.trans (zmk_ne hmk c_73)) ?_
                            refine lv_iadd hx hb dL_isSo_156 ?_
                            refine zz_i (y := nI (i + mm)) (nI_add i mm) ?_
                            refine zro_i (va_runS (As := [.ref rx, .int (nI tn), .int (nI (i + mm))]) (rest := [.int (bI (zcm own oth i mm && ztk oth (i + mm)))]) ⟨hx, hb, hml, hown, hts⟩ (c_L_takes l dC dI cyI cyJ rx F tn own oth (by omega) hr9 (i + mm) (by omega)) (va_cwS 3 hts gL_isSo_L_takes rfl rfl rfl (by decide +kernel) ⟨Nat.le_of_ble_eq_true rfl, Nat.le_of_ble_eq_true rfl⟩) (zPc_S zB_T hP hK [3] rfl (fun _ _ _ => trivial)) rfl rfl hl.1 rfl (lv_room (Nat.le_of_ble_eq_true rfl)) dL_isSo_157 ⟨Nat.zero_le _, Nat.zero_le _⟩) hP hS (fun H locs hP hS => ?_)
                            refine lv_if_eq (tgt := 167) hx hb dL_isSo_160 (by decide) (fun c_160 => ?_) (fun c_160 => ?_)
                            · skip
                              have c_160 := bI_0.mp c_160
                              refine lv_iconst (v := 0) hx hb dL_isSo_167 (by decide) ?_
                              refine lv_icmp_ne (tgt := 191) hx hb dL_isSo_168 (by decide) (fun c_168 => ?_) (fun c_168 => ?_)
                              · skip
                                exact absurd (by rw [c_88, c_160]; rfl) c_168
                              · skip
                                refine lv_iload hx hb dL_isSo_171 (lv_at hl 0 rfl) ?_
                                refine lv_if_eq (tgt := 187) hx hb dL_isSo_173 (by decide) (fun c9 => absurd c9 (by decide)) (fun _ => ?_)
                                refine lv_aload_n hx hb dL_isSo_176 rfl (lv_at hl 4 rfl) ?_
                                refine lv_iload hx hb dL_isSo_177 (lv_at hl 2 rfl) ?_
                                refine zro_i (va_runV (As := [.int (nI cv)]) (rest := []) ⟨hx, hb, hml, hown, hts⟩ (c_X5_moveAt l dC dI cyI cyJ ax a0 a1 ae aw ao aq mk wn cnt lo lq k tn own oth hsd hO hQ mm (nI cv) hmk hmm) (cwV 1 hts gL_isSo_X5_moveAt rfl rfl rfl (by decide +kernel) ⟨Nat.le_of_ble_eq_true rfl, Nat.le_of_ble_eq_true rfl⟩) (zPc_V (ci := 2) (q0 := 0) zB_T hP hK rfl rfl [0, 1, 2] rfl (fun _ _ _ => trivial)) rfl rfl hl.1 rfl (lv_room (Nat.le_of_ble_eq_true rfl)) dL_isSo_179 ⟨Nat.zero_le _, Nat.zero_le _⟩) hP hS (fun H locs hP hS => ?_)
                                refine lv_iload hx hb dL_isSo_182 (lv_at hl 1 rfl) ?_
                                refine lv_icmp_ne (tgt := 191) hx hb dL_isSo_184 (by decide) (fun c_184 => ?_) (fun c_184 => ?_)
                                · skip
                                  exact absurd (by rw [hcv]; exact zMA_at (by omega) c_88) c_184
                                · skip
                                  refine lv_iconst (v := 1) hx hb dL_isSo_187 (by decide) ?_
                                  refine lv_goto (tgt := 192) hx hb dL_isSo_188 (by decide) ?_
                                  refine lv_istore_n (lv' := [(3, .int 1), (6, .int 1), (5, .int (nI i)), (4, .int (nI cv)), (0, .ref ax), (1, .ref rx), (2, .ref rq)]) hx hb dL_isSo_192 rfl hl (by decide) rfl (fun ls hl => ?_)
                                  refine lv_iload hx hb dL_isSo_193 (lv_at hl 3 rfl) ?_
                                  refine lv_iload hx hb dL_isSo_195 (lv_at hl 1 rfl) ?_
                                  refine lv_if_eq (tgt := 204) hx hb dL_isSo_197 (by decide) (fun c9 => absurd c9 (by decide)) (fun _ => ?_)
                                  refine lv_iconst (v := 1) hx hb dL_isSo_200 (by decide) ?_
                                  refine lv_goto (tgt := 205) hx hb dL_isSo_201 (by decide) ?_
                                  refine lv_iadd hx hb dL_isSo_205 ?_
                                  refine zz_i (y := nI (cv + 1)) (nI_add cv 1) ?_
                                  refine lv_istore (lv' := [(4, .int (nI (cv + 1))), (3, .int 1), (6, .int 1), (5, .int (nI i)), (0, .ref ax), (1, .ref rx), (2, .ref rq)]) hx hb dL_isSo_206 hl (by decide) rfl (fun ls hl => ?_)
                                  refine lv_iinc (v := nI (i + 1)) (lv' := [(5, .int (nI (i + 1))), (4, .int (nI (cv + 1))), (3, .int 1), (6, .int 1), (0, .ref ax), (1, .ref rx), (2, .ref rq)]) hx hb dL_isSo_208 hl (k := 3) rfl (nI_1 i) (by decide) rfl (fun ls hl => ?_)
                                  refine lv_goto (tgt := 52) hx hb dL_isSo_211 (by decide) ?_
                                  exact ih52 (i + 1) _ (by omega) (by rw [zNum_s, if_pos c_88, hcv]) (by omega) _ _ hP hS _ (lv_sub hl [0, 1, 2, 4, 5, 6] rfl)
                            · skip
                              have c_160 := bI_1.mp c_160
                              refine lv_iconst (v := 1) hx hb dL_isSo_163 (by decide) ?_
                              refine lv_goto (tgt := 168) hx hb dL_isSo_164 (by decide) ?_
                              refine lv_icmp_ne (tgt := 191) hx hb dL_isSo_168 (by decide) (fun c_168 => ?_) (fun c_168 => ?_)
                              · skip
                                exact absurd (by rw [c_88, c_160]; rfl) c_168
                              · skip
                                refine lv_iload hx hb dL_isSo_171 (lv_at hl 0 rfl) ?_
                                refine lv_if_eq (tgt := 187) hx hb dL_isSo_173 (by decide) (fun c9 => absurd c9 (by decide)) (fun _ => ?_)
                                refine lv_aload_n hx hb dL_isSo_176 rfl (lv_at hl 4 rfl) ?_
                                refine lv_iload hx hb dL_isSo_177 (lv_at hl 2 rfl) ?_
                                refine zro_i (va_runV (As := [.int (nI cv)]) (rest := []) ⟨hx, hb, hml, hown, hts⟩ (c_X5_moveAt l dC dI cyI cyJ ax a0 a1 ae aw ao aq mk wn cnt lo lq k tn own oth hsd hO hQ mm (nI cv) hmk hmm) (cwV 1 hts gL_isSo_X5_moveAt rfl rfl rfl (by decide +kernel) ⟨Nat.le_of_ble_eq_true rfl, Nat.le_of_ble_eq_true rfl⟩) (zPc_V (ci := 2) (q0 := 0) zB_T hP hK rfl rfl [0, 1, 2] rfl (fun _ _ _ => trivial)) rfl rfl hl.1 rfl (lv_room (Nat.le_of_ble_eq_true rfl)) dL_isSo_179 ⟨Nat.zero_le _, Nat.zero_le _⟩) hP hS (fun H locs hP hS => ?_)
                                refine lv_iload hx hb dL_isSo_182 (lv_at hl 1 rfl) ?_
                                refine lv_icmp_ne (tgt := 191) hx hb dL_isSo_184 (by decide) (fun c_184 => ?_) (fun c_184 => ?_)
                                · skip
                                  exact absurd (by rw [hcv]; exact zMA_at (by omega) c_88) c_184
                                · skip
                                  refine lv_iconst (v := 1) hx hb dL_isSo_187 (by decide) ?_
                                  refine lv_goto (tgt := 192) hx hb dL_isSo_188 (by decide) ?_
                                  refine lv_istore_n (lv' := [(3, .int 1), (6, .int 1), (5, .int (nI i)), (4, .int (nI cv)), (0, .ref ax), (1, .ref rx), (2, .ref rq)]) hx hb dL_isSo_192 rfl hl (by decide) rfl (fun ls hl => ?_)
                                  refine lv_iload hx hb dL_isSo_193 (lv_at hl 3 rfl) ?_
                                  refine lv_iload hx hb dL_isSo_195 (lv_at hl 1 rfl) ?_
                                  refine lv_if_eq (tgt := 204) hx hb dL_isSo_197 (by decide) (fun c9 => absurd c9 (by decide)) (fun _ => ?_)
                                  refine lv_iconst (v := 1) hx hb dL_isSo_200 (by decide) ?_
                                  refine lv_goto (tgt := 205) hx hb dL_isSo_201 (by decide) ?_
                                  refine lv_iadd hx hb dL_isSo_205 ?_
                                  refine zz_i (y := nI (cv + 1)) (nI_add cv 1) ?_
                                  refine lv_istore (lv' := [(4, .int (nI (cv + 1))), (3, .int 1), (6, .int 1), (5, .int (nI i)), (0, .ref ax), (1, .ref rx), (2, .ref rq)]) hx hb dL_isSo_206 hl (by decide) rfl (fun ls hl => ?_)
                                  refine lv_iinc (v := nI (i + 1)) (lv' := [(5, .int (nI (i + 1))), (4, .int (nI (cv + 1))), (3, .int 1), (6, .int 1), (0, .ref ax), (1, .ref rx), (2, .ref rq)]) hx hb dL_isSo_208 hl (k := 3) rfl (nI_1 i) (by decide) rfl (fun ls hl => ?_)
                                  refine lv_goto (tgt := 52) hx hb dL_isSo_211 (by decide) ?_
                                  exact ih52 (i + 1) _ (by omega) (by rw [zNum_s, if_pos c_88, hcv]) (by omega) _ _ hP hS _ (lv_sub hl [0, 1, 2, 4, 5, 6] rfl)
          exact lp 17 0 0 (by omega) rfl (by omega) _ _ hP hS _ (lv_sub hl [0, 1, 2, 3, 4, 5] rfl)

/-- the first move, from place p on, among j places, ahead of which idx others are -/
def zMA (own oth mm : Nat) (idx : Int32) : Nat → Nat → Int32
  | _, 0 => -1
  | p, j + 1 => if zcm own oth p mm = true ∧ nI (zNum own oth mm p) = idx then nI p else zMA own oth mm idx (p + 1) j
theorem zMA_s (own oth mm : Nat) (idx : Int32) (p j : Nat) : zMA own oth mm idx p (j + 1) = if zcm own oth p mm = true ∧ nI (zNum own oth mm p) = idx then nI p else zMA own oth mm idx (p + 1) j := rfl
/-- the first place, from p on, of this rank -/
def zRk (wb : Nat → Int32) (rank : Int32) : Nat → Nat → Int32
  | _, 0 => -1
  | p, j + 1 => if ¬ wb p = -1 ∧ nI (zCB wb p (wb p) 15) = rank then nI p else zRk wb rank (p + 1) j
theorem zRk_s (wb : Nat → Int32) (rank : Int32) (p j : Nat) : zRk wb rank p (j + 1) = if ¬ wb p = -1 ∧ nI (zCB wb p (wb p) 15) = rank then nI p else zRk wb rank (p + 1) j := rfl
theorem zCB_congr {wa wb : Nat → Int32} (h : ∀ j, j < 15 → wa j = wb j) (pl : Nat) (w : Int32) : ∀ j, j ≤ 15 → zCB wa pl w j = zCB wb pl w j := by
  intro j
  induction j with
  | zero => intro _; rfl
  | succ j ih => intro hj; rw [zCB_s, zCB_s, ih (by omega), h j (by omega)]
theorem zRk_congr {wa wb : Nat → Int32} (h : ∀ j, j < 15 → wa j = wb j) (rank : Int32) : ∀ j p, p + j ≤ 15 → zRk wa rank p j = zRk wb rank p j := by
  intro j
  induction j with
  | zero => intro p _; rfl
  | succ j ih => intro p hp; rw [zRk_s, zRk_s, ih (p + 1) (by omega), h p (by omega), zCB_congr h _ _ 15 (by omega)]
theorem zisub {x : Nat} (h : x ≤ 1000000000) : (1000000000 : Int32) - nI x = nI (1000000000 - x) := pk_sub h
set_option maxHeartbeats 4000000 in
set_option maxRecDepth 100000 in
theorem c_X5_turn (l : Launch) (dC : Nat → ClassId) (dI : Nat → Nat → Nat) (cyI cyJ : ClassId) (ax a0 a1 ae aw : Nat) (pI tI mk wn cnt : Int32) : Met l yX5_turn wsX5_turn ({ frames := 0, cells := 0, slots := 0, locals := 0 }) (zPc [.ref ax] (dC, dI) vwCl [(cyI, .int)] [(ax, .inr (2, [.ref a0, .ref a1, .ref ae, .ref aw, .int pI, .int tI, .int mk, .int wn, .int cnt]))] (fun _ => True)) (va_Qi (fun (r : Int32) (_ : Unit) => r = tI) (fun _ _ => True) zF) 0 0 zF := by
  refine Met.ofW (cc := cX5_turn) (maxL := 1) (ret := (some .int)) (by decide) rfl ?_
  intro p e s m args below meth c s₁ B hml hv
  obtain ⟨rfl, hP, hK, hX⟩ := hv
  have hx := B.exec
  have hb := B.bytes
  have hr := B.returns
  have hts := atoms_spec (ws := wsX5_turn) B.pre
  have hown : s.vm.findClass RX5 = some m.cls := findClass_of_methodNamed B.named
  have hlocks := B.notSynchronized
  have hinX5 : ∀ w ∈ wsX50, w ∈ wsX5_turn := by decide +kernel
  have hl := lv_entry ([.ref ax]) (n := 1) (Nat.le_of_ble_eq_true rfl)
  rw [lg_entry_eq]
  generalize (lg_sl ([.ref ax]) ++ List.replicate (1 - (lg_sl ([.ref ax])).length) Slot.unset).toArray = ls at hl ⊢
  have hl : lv_has ls 1 [(0, .ref ax)] := hl
  have hS : va_S zF s.heap s.heap [] := va_S.rf
  refine lv_aload_n hx hb dX5_turn_0 rfl (lv_at hl 0 rfl) ?_
  refine va_get (D := (dC, dI)) (ci := 2) (v := .int tI) (C := RX5) (T := TX5) (N := 9) hx hb hts hinX5 hown hK hP 0 rfl rfl 5 (by decide) (hts (.fieldLink RX5 59 "RoyalUrTable" "turn" "I") (List.mem_of_getElem? (i := 1) rfl)) (fun _ h9 => h9) rfl dX5_turn_1 ?_
  exact W.iret (v := tI) hx hb hr (fun t ht hW => ⟨⟨_, (), rfl, rfl, trivial⟩, hS.F ht⟩) hS.2.2 dX5_turn_4

set_option maxHeartbeats 4000000 in
set_option maxRecDepth 100000 in
theorem c_X5_marks (l : Launch) (dC : Nat → ClassId) (dI : Nat → Nat → Nat) (cyI cyJ : ClassId) (ax a0 a1 ae aw : Nat) (pI tI mk wn cnt : Int32) : Met l yX5_marks wsX5_marks ({ frames := 0, cells := 0, slots := 0, locals := 0 }) (zPc [.ref ax] (dC, dI) vwCl [(cyI, .int)] [(ax, .inr (2, [.ref a0, .ref a1, .ref ae, .ref aw, .int pI, .int tI, .int mk, .int wn, .int cnt]))] (fun _ => True)) (va_Qi (fun (r : Int32) (_ : Unit) => r = mk) (fun _ _ => True) zF) 0 0 zF := by
  refine Met.ofW (cc := cX5_marks) (maxL := 1) (ret := (some .int)) (by decide) rfl ?_
  intro p e s m args below meth c s₁ B hml hv
  obtain ⟨rfl, hP, hK, hX⟩ := hv
  have hx := B.exec
  have hb := B.bytes
  have hr := B.returns
  have hts := atoms_spec (ws := wsX5_marks) B.pre
  have hown : s.vm.findClass RX5 = some m.cls := findClass_of_methodNamed B.named
  have hlocks := B.notSynchronized
  have hinX5 : ∀ w ∈ wsX50, w ∈ wsX5_marks := by decide +kernel
  have hl := lv_entry ([.ref ax]) (n := 1) (Nat.le_of_ble_eq_true rfl)
  rw [lg_entry_eq]
  generalize (lg_sl ([.ref ax]) ++ List.replicate (1 - (lg_sl ([.ref ax])).length) Slot.unset).toArray = ls at hl ⊢
  have hl : lv_has ls 1 [(0, .ref ax)] := hl
  have hS : va_S zF s.heap s.heap [] := va_S.rf
  refine lv_aload_n hx hb dX5_marks_0 rfl (lv_at hl 0 rfl) ?_
  refine va_get (D := (dC, dI)) (ci := 2) (v := .int mk) (C := RX5) (T := TX5) (N := 9) hx hb hts hinX5 hown hK hP 0 rfl rfl 6 (by decide) (hts (.fieldLink RX5 46 "RoyalUrTable" "marksTold" "I") (List.mem_of_getElem? (i := 1) rfl)) (fun _ h9 => h9) rfl dX5_marks_1 ?_
  exact W.iret (v := mk) hx hb hr (fun t ht hW => ⟨⟨_, (), rfl, rfl, trivial⟩, hS.F ht⟩) hS.2.2 dX5_marks_4

set_option maxHeartbeats 4000000 in
set_option maxRecDepth 100000 in
theorem c_X5_winner (l : Launch) (dC : Nat → ClassId) (dI : Nat → Nat → Nat) (cyI cyJ : ClassId) (ax a0 a1 ae aw : Nat) (pI tI mk wn cnt : Int32) : Met l yX5_winner wsX5_winner ({ frames := 0, cells := 0, slots := 0, locals := 0 }) (zPc [.ref ax] (dC, dI) vwCl [(cyI, .int)] [(ax, .inr (2, [.ref a0, .ref a1, .ref ae, .ref aw, .int pI, .int tI, .int mk, .int wn, .int cnt]))] (fun _ => True)) (va_Qi (fun (r : Int32) (_ : Unit) => r = wn) (fun _ _ => True) zF) 0 0 zF := by
  refine Met.ofW (cc := cX5_winner) (maxL := 1) (ret := (some .int)) (by decide) rfl ?_
  intro p e s m args below meth c s₁ B hml hv
  obtain ⟨rfl, hP, hK, hX⟩ := hv
  have hx := B.exec
  have hb := B.bytes
  have hr := B.returns
  have hts := atoms_spec (ws := wsX5_winner) B.pre
  have hown : s.vm.findClass RX5 = some m.cls := findClass_of_methodNamed B.named
  have hlocks := B.notSynchronized
  have hinX5 : ∀ w ∈ wsX50, w ∈ wsX5_winner := by decide +kernel
  have hl := lv_entry ([.ref ax]) (n := 1) (Nat.le_of_ble_eq_true rfl)
  rw [lg_entry_eq]
  generalize (lg_sl ([.ref ax]) ++ List.replicate (1 - (lg_sl ([.ref ax])).length) Slot.unset).toArray = ls at hl ⊢
  have hl : lv_has ls 1 [(0, .ref ax)] := hl
  have hS : va_S zF s.heap s.heap [] := va_S.rf
  refine lv_aload_n hx hb dX5_winner_0 rfl (lv_at hl 0 rfl) ?_
  refine va_get (D := (dC, dI)) (ci := 2) (v := .int wn) (C := RX5) (T := TX5) (N := 9) hx hb hts hinX5 hown hK hP 0 rfl rfl 7 (by decide) (hts (.fieldLink RX5 42 "RoyalUrTable" "winner" "I") (List.mem_of_getElem? (i := 1) rfl)) (fun _ h9 => h9) rfl dX5_winner_1 ?_
  exact W.iret (v := wn) hx hb hr (fun t ht hW => ⟨⟨_, (), rfl, rfl, trivial⟩, hS.F ht⟩) hS.2.2 dX5_winner_4

set_option maxHeartbeats 4000000 in
set_option maxRecDepth 100000 in
theorem c_X5_throwsTold (l : Launch) (dC : Nat → ClassId) (dI : Nat → Nat → Nat) (cyI cyJ : ClassId) (ax a0 a1 ae aw : Nat) (pI tI mk wn cnt : Int32) : Met l yX5_throwsTold wsX5_throwsTold ({ frames := 0, cells := 0, slots := 0, locals := 0 }) (zPc [.ref ax] (dC, dI) vwCl [(cyI, .int)] [(ax, .inr (2, [.ref a0, .ref a1, .ref ae, .ref aw, .int pI, .int tI, .int mk, .int wn, .int cnt]))] (fun _ => True)) (va_Qi (fun (r : Int32) (_ : Unit) => r = cnt) (fun _ _ => True) zF) 0 0 zF := by
  refine Met.ofW (cc := cX5_throwsTold) (maxL := 1) (ret := (some .int)) (by decide) rfl ?_
  intro p e s m args below meth c s₁ B hml hv
  obtain ⟨rfl, hP, hK, hX⟩ := hv
  have hx := B.exec
  have hb := B.bytes
  have hr := B.returns
  have hts := atoms_spec (ws := wsX5_throwsTold) B.pre
  have hown : s.vm.findClass RX5 = some m.cls := findClass_of_methodNamed B.named
  have hlocks := B.notSynchronized
  have hinX5 : ∀ w ∈ wsX50, w ∈ wsX5_throwsTold := by decide +kernel
  have hl := lv_entry ([.ref ax]) (n := 1) (Nat.le_of_ble_eq_true rfl)
  rw [lg_entry_eq]
  generalize (lg_sl ([.ref ax]) ++ List.replicate (1 - (lg_sl ([.ref ax])).length) Slot.unset).toArray = ls at hl ⊢
  have hl : lv_has ls 1 [(0, .ref ax)] := hl
  have hS : va_S zF s.heap s.heap [] := va_S.rf
  refine lv_aload_n hx hb dX5_throwsTold_0 rfl (lv_at hl 0 rfl) ?_
  refine va_get (D := (dC, dI)) (ci := 2) (v := .int cnt) (C := RX5) (T := TX5) (N := 9) hx hb hts hinX5 hown hK hP 0 rfl rfl 8 (by decide) (hts (.fieldLink RX5 52 "RoyalUrTable" "throwsTold" "I") (List.mem_of_getElem? (i := 1) rfl)) (fun _ h9 => h9) rfl dX5_throwsTold_1 ?_
  exact W.iret (v := cnt) hx hb hr (fun t ht hW => ⟨⟨_, (), rfl, rfl, trivial⟩, hS.F ht⟩) hS.2.2 dX5_throwsTold_4

set_option maxHeartbeats 4000000 in
set_option maxRecDepth 100000 in
theorem c_X5_moves (l : Launch) (dC : Nat → ClassId) (dI : Nat → Nat → Nat) (cyI cyJ : ClassId) (ax a0 a1 ae aw ao aq : Nat) (mk wn cnt lo lq : Int32) (k tn own oth : Nat) (hsd : zSd tn a0 a1 ao aq) (hO : zok k own) (hQ : zok k oth) (mm : Nat) (hmk : zmk mk mm) (hmm : mm ≤ 4) : Met l yX5_moves wsX5_moves ({ frames := 3, cells := 0, slots := 0, locals := 75 }) (zPc [.ref ax] (dC, dI) vwCl [(cyI, .int)] [(ax, .inr (2, [.ref a0, .ref a1, .ref ae, .ref aw, .int (nI k), .int (nI tn), .int mk, .int wn, .int cnt])), (ao, .inr (1, [.long (lN own), .int lo])), (aq, .inr (1, [.long (lN oth), .int lq]))] (fun _ => True)) (va_Qi (fun (r : Int32) (_ : Unit) => r = nI (zNum own oth mm 15)) (fun _ _ => True) zF) 0 0 zF := by
  refine Met.ofW (cc := cX5_moves) (maxL := 1) (ret := (some .int)) (by decide) rfl ?_
  intro p e s m args below meth c s₁ B hml hv
  obtain ⟨rfl, hP, hK, hX⟩ := hv
  have hx := B.exec
  have hb := B.bytes
  have hr := B.returns
  have hts := atoms_spec (ws := wsX5_moves) B.pre
  have hown : s.vm.findClass RX5 = some m.cls := findClass_of_methodNamed B.named
  have hlocks := B.notSynchronized
  have hinX5 : ∀ w ∈ wsX50, w ∈ wsX5_moves := by decide +kernel
  have hl := lv_entry ([.ref ax]) (n := 1) (Nat.le_of_ble_eq_true rfl)
  rw [lg_entry_eq]
  generalize (lg_sl ([.ref ax]) ++ List.replicate (1 - (lg_sl ([.ref ax])).length) Slot.unset).toArray = ls at hl ⊢
  have hl : lv_has ls 1 [(0, .ref ax)] := hl
  have hS : va_S zF s.heap s.heap [] := va_S.rf
  refine lv_aload_n hx hb dX5_moves_0 rfl (lv_at hl 0 rfl) ?_
  refine lv_aload_n hx hb dX5_moves_1 rfl (lv_at hl 0 rfl) ?_
  refine va_get (D := (dC, dI)) (ci := 2) (v := .int mk) (C := RX5) (T := TX5) (N := 9) hx hb hts hinX5 hown hK hP 0 rfl rfl 6 (by decide) (hts (.fieldLink RX5 46 "RoyalUrTable" "marksTold" "I") (List.mem_of_getElem? (i := 1) rfl)) (fun _ h9 => h9) rfl dX5_moves_2 ?_
  refine zro_i (va_runV (As := [.int mk]) (rest := []) ⟨hx, hb, hml, hown, hts⟩ (c_X5_countMoves l dC dI cyI cyJ ax a0 a1 ae aw ao aq mk wn cnt lo lq k tn own oth hsd hO hQ mm mk hmk hmm) (cwV 1 hts gX5_moves_X5_countMoves rfl rfl rfl (by decide +kernel) ⟨Nat.le_of_ble_eq_true rfl, Nat.le_of_ble_eq_true rfl⟩) (zPc_V (ci := 2) (q0 := 0) zB_T hP hK rfl rfl [0, 1, 2] rfl (fun _ _ _ => trivial)) rfl rfl hl.1 rfl (lv_room (Nat.le_of_ble_eq_true rfl)) dX5_moves_5 ⟨Nat.zero_le _, Nat.zero_le _⟩) hP hS (fun H locs hP hS => ?_)
  exact W.iret (v := nI (zNum own oth mm 15)) hx hb hr (fun t ht hW => ⟨⟨_, (), rfl, rfl, trivial⟩, hS.F ht⟩) hS.2.2 dX5_moves_8

set_option maxHeartbeats 4000000 in
set_option maxRecDepth 100000 in
theorem c_X5_moveAt (l : Launch) (dC : Nat → ClassId) (dI : Nat → Nat → Nat) (cyI cyJ : ClassId) (ax a0 a1 ae aw ao aq : Nat) (mk wn cnt lo lq : Int32) (k tn own oth : Nat) (hsd : zSd tn a0 a1 ao aq) (hO : zok k own) (hQ : zok k oth) (mm : Nat) (idx : Int32) (hmk : zmk mk mm) (hmm : mm ≤ 4) : Met l yX5_moveAt wsX5_moveAt ({ frames := 3, cells := 0, slots := 0, locals := 69 }) (zPc [.ref ax, .int idx] (dC, dI) vwCl [(cyI, .int)] [(ax, .inr (2, [.ref a0, .ref a1, .ref ae, .ref aw, .int (nI k), .int (nI tn), .int mk, .int wn, .int cnt])), (ao, .inr (1, [.long (lN own), .int lo])), (aq, .inr (1, [.long (lN oth), .int lq]))] (fun _ => True)) (va_Qi (fun (r : Int32) (_ : Unit) => r = zMA own oth mm idx 0 15) (fun _ _ => True) zF) 0 0 zF := by
  refine Met.ofW (cc := cX5_moveAt) (maxL := 4) (ret := (some .int)) (by decide) rfl ?_
  intro p e s m args below meth c s₁ B hml hv
  obtain ⟨rfl, hP, hK, hX⟩ := hv
  have hx := B.exec
  have hb := B.bytes
  have hr := B.returns
  have hts := atoms_spec (ws := wsX5_moveAt) B.pre
  have hown : s.vm.findClass RX5 = some m.cls := findClass_of_methodNamed B.named
  have hlocks := B.notSynchronized
  have hl := lv_entry ([.ref ax, .int idx]) (n := 4) (Nat.le_of_ble_eq_true rfl)
  rw [lg_entry_eq]
  generalize (lg_sl ([.ref ax, .int idx]) ++ List.replicate (4 - (lg_sl ([.ref ax, .int idx])).length) Slot.unset).toArray = ls at hl ⊢
  have hl : lv_has ls 4 [(0, .ref ax), (1, .int idx)] := hl
  have hS : va_S zF s.heap s.heap [] := va_S.rf
  generalize hQe : MQ below _ _ _ _ _ _ = Q
  refine lv_iconst (v := 0) hx hb dX5_moveAt_0 (by decide) ?_
  refine lv_istore_n (lv' := [(2, .int 0), (0, .ref ax), (1, .int idx)]) hx hb dX5_moveAt_1 rfl hl (by decide) rfl (fun ls hl => ?_)
  refine lv_iconst (v := 0) hx hb dX5_moveAt_2 (by decide) ?_
  refine lv_istore_n (lv' := [(3, .int 0), (2, .int 0), (0, .ref ax), (1, .int idx)]) hx hb dX5_moveAt_3 rfl hl (by decide) rfl (fun ls hl => ?_)
  have lp : ∀ (n9 : Nat) (i : Nat) (j : Nat) (cv : Nat), i + j = 15 → cv = zNum own oth mm i → zMA own oth mm idx 0 15 = zMA own oth mm idx i j → 15 - i < n9 → ∀ (H : Heap) (locs : List Loc), va_P (dC, dI) vwCl [(ax, .inr (2, [.ref a0, .ref a1, .ref ae, .ref aw, .int (nI k), .int (nI tn), .int mk, .int wn, .int cnt])), (ao, .inr (1, [.long (lN own), .int lo])), (aq, .inr (1, [.long (lN oth), .int lq]))] H → va_S zF s.heap H locs → ∀ ls : Array Slot, lv_has ls 4 [(3, .int (nI i)), (2, .int (nI cv)), (0, .ref ax), (1, .int idx)] → W p l e (headSpec wsX5_moveAt ({ frames := 3, cells := 0, slots := 0, locals := 69 })).room s m ([.ref ax, .int idx] : List Value).toArray below meth c H locs 0 0 Q (F0 m 4 ls []) := by
    intro n9
    induction n9 with
    | zero => intro i j cv hi2 hcv hf hm9; exact absurd hm9 (Nat.not_lt_zero _)
    | succ n9 ih4 =>
      intro i j cv hi2 hcv hf hm9 H locs hP hS ls hl
      refine lv_iload_n hx hb dX5_moveAt_4 rfl (lv_at hl 0 rfl) ?_
      refine lv_bipush (v := 14) hx hb dX5_moveAt_5 (by decide) ?_
      refine lv_icmp_gt (tgt := 34) hx hb dX5_moveAt_7 (by decide) (fun c_7 => ?_) (fun c_7 => ?_)
      · skip
        have c_7 : 14 < i := (nI_ltI (a := 14) (b := i) (by omega) (by omega)).mp c_7
        refine lv_iconst (v := -1) hx hb dX5_moveAt_34 (by decide) ?_
        subst hQe
        exact W.iret (v := -1) hx hb hr (fun t ht hW => ⟨⟨_, (), rfl, (by rw [hf, show j = 0 by omega]; rfl), trivial⟩, hS.F ht⟩) hS.2.2 dX5_moveAt_35
      · skip
        have c_7 : ¬ 14 < i := fun h9 => c_7 ((nI_ltI (a := 14) (b := i) (by omega) (by omega)).mpr h9)
        refine lv_aload_n hx hb dX5_moveAt_10 rfl (lv_at hl 2 rfl) ?_
        refine lv_iload_n hx hb dX5_moveAt_11 rfl (lv_at hl 0 rfl) ?_
        refine zro_i (va_runV (As := [.int (nI i)]) (rest := []) ⟨hx, hb, hml, hown, hts⟩ (c_X5_canMoveFrom l dC dI cyI cyJ ax a0 a1 ae aw ao aq mk wn cnt lo lq k tn own oth hsd hO hQ mm i hmk hmm (by omega)) (cwV 1 hts gX5_moveAt_X5_canMoveFrom rfl rfl rfl (by decide +kernel) ⟨Nat.le_of_ble_eq_true rfl, Nat.le_of_ble_eq_true rfl⟩) (zPc_V (ci := 2) (q0 := 0) zB_T hP hK rfl rfl [0, 1, 2] rfl (fun _ _ _ => trivial)) rfl rfl hl.1 rfl (lv_room (Nat.le_of_ble_eq_true rfl)) dX5_moveAt_12 ⟨Nat.zero_le _, Nat.zero_le _⟩) hP hS (fun H locs hP hS => ?_)
        refine lv_if_eq (tgt := 28) hx hb dX5_moveAt_15 (by decide) (fun c_15 => ?_) (fun c_15 => ?_)
        · skip
          have c_15 := bI_0.mp c_15
          refine lv_iinc (v := nI (i + 1)) (lv' := [(3, .int (nI (i + 1))), (2, .int (nI cv)), (0, .ref ax), (1, .int idx)]) hx hb dX5_moveAt_28 hl (k := 0) rfl (nI_1 i) (by decide) rfl (fun ls hl => ?_)
          refine lv_goto (tgt := 4) hx hb dX5_moveAt_31 (by decide) ?_
          exact ih4 (i + 1) (j - 1) _ (by omega) (by rw [zNum_s, if_neg (by rw [c_15]; decide), Nat.add_zero]; exact hcv) (by rw [hf]; obtain ⟨j9, rfl⟩ : ∃ j9, j = j9 + 1 := ⟨j - 1, by omega⟩; rw [zMA_s, if_neg (fun h => by rw [h.1] at c_15; cases c_15)]; rfl) (by omega) _ _ hP hS _ (lv_sub hl [0, 1, 2, 3] rfl)
        · skip
          have c_15 := bI_1.mp c_15
          refine lv_iload_n hx hb dX5_moveAt_18 rfl (lv_at hl 1 rfl) ?_
          refine lv_iload_n hx hb dX5_moveAt_19 rfl (lv_at hl 3 rfl) ?_
          refine lv_icmp_ne (tgt := 25) hx hb dX5_moveAt_20 (by decide) (fun c_20 => ?_) (fun c_20 => ?_)
          · skip
            refine lv_iinc (v := nI (cv + 1)) (lv' := [(2, .int (nI (cv + 1))), (3, .int (nI i)), (0, .ref ax), (1, .int idx)]) hx hb dX5_moveAt_25 hl (k := 1) rfl (nI_1 cv) (by decide) rfl (fun ls hl => ?_)
            refine lv_iinc (v := nI (i + 1)) (lv' := [(3, .int (nI (i + 1))), (2, .int (nI (cv + 1))), (0, .ref ax), (1, .int idx)]) hx hb dX5_moveAt_28 hl (k := 1) rfl (nI_1 i) (by decide) rfl (fun ls hl => ?_)
            refine lv_goto (tgt := 4) hx hb dX5_moveAt_31 (by decide) ?_
            exact ih4 (i + 1) (j - 1) _ (by omega) (by rw [zNum_s, if_pos c_15, hcv]) (by rw [hf]; obtain ⟨j9, rfl⟩ : ∃ j9, j = j9 + 1 := ⟨j - 1, by omega⟩; rw [zMA_s, if_neg (fun h => c_20 (by rw [hcv]; exact h.2))]; rfl) (by omega) _ _ hP hS _ (lv_sub hl [0, 1, 2, 3] rfl)
          · skip
            refine lv_iload_n hx hb dX5_moveAt_23 rfl (lv_at hl 0 rfl) ?_
            subst hQe
            exact W.iret (v := nI i) hx hb hr (fun t ht hW => ⟨⟨_, (), rfl, (by rw [hf]; obtain ⟨j9, rfl⟩ : ∃ j9, j = j9 + 1 := ⟨j - 1, by omega⟩; rw [zMA_s, if_pos ⟨c_15, by rw [← hcv]; exact c_20⟩]), trivial⟩, hS.F ht⟩) hS.2.2 dX5_moveAt_24
  exact lp 16 0 15 0 (by omega) rfl rfl (by omega) _ _ hP hS _ (lv_sub hl [0, 1, 2, 3] rfl)

set_option maxHeartbeats 4000000 in
set_option maxRecDepth 100000 in
theorem c_X5_setUp (l : Launch) (dC : Nat → ClassId) (dI : Nat → Nat → Nat) (cyI cyJ : ClassId) (ax a0 a1 ae aw ao aq tn9 : Nat) (pI tI mk wn cnt lo lq : Int32) (lx ly : Int64) (hsd : zSd tn9 a0 a1 ao aq) (j : Nat) (hj : j ≤ 4) (hnd : [ax, ao, aq].Nodup) : Met l yX5_setUp wsX5_setUp ({ frames := 1, cells := 0, slots := 0, locals := 20 }) (zPc [.ref ax, .int (nI j)] (dC, dI) vwCl [(cyI, .int)] [(ax, .inr (2, [.ref a0, .ref a1, .ref ae, .ref aw, .int pI, .int tI, .int mk, .int wn, .int cnt])), (ao, .inr (1, [.long lx, .int lo])), (aq, .inr (1, [.long ly, .int lq]))] (fun _ => True)) (va_Qv (fun (_ : Unit) => True) (fun (u : Unit) t => va_P (dC, dI) vwCl ([(ax, .inr (2, [.ref a0, .ref a1, .ref ae, .ref aw, .int (nI j), .int 0, .int (-1), .int (-1), .int 0])), (ao, .inr (1, [.long (lN j), .int 0])), (aq, .inr (1, [.long (lN j), .int 0]))]) t.heap) (zA [ax, ao, aq])) 0 0 (zA [ax, ao, aq]) := by
  refine Met.ofW (cc := cX5_setUp) (maxL := 2) (ret := none) (by decide) rfl ?_
  intro p e s m args below meth c s₁ B hml hv
  obtain ⟨rfl, hP, hK, hX⟩ := hv
  have hx := B.exec
  have hb := B.bytes
  have hr := B.returns
  have hts := atoms_spec (ws := wsX5_setUp) B.pre
  have hown : s.vm.findClass RX5 = some m.cls := findClass_of_methodNamed B.named
  have hlocks := B.notSynchronized
  have hinX3 : ∀ w ∈ wsX30, w ∈ wsX5_setUp := by decide +kernel
  have hinX5 : ∀ w ∈ wsX50, w ∈ wsX5_setUp := by decide +kernel
  have hl := lv_entry ([.ref ax, .int (nI j)]) (n := 2) (Nat.le_of_ble_eq_true rfl)
  rw [lg_entry_eq]
  generalize (lg_sl ([.ref ax, .int (nI j)]) ++ List.replicate (2 - (lg_sl ([.ref ax, .int (nI j)])).length) Slot.unset).toArray = ls at hl ⊢
  have hl : lv_has ls 2 [(0, .ref ax), (1, .int (nI j))] := hl
  have hS : va_S (zA [ax, ao, aq]) s.heap s.heap [] := va_S.rf
  have hDD : zD (zA [ax, ao, aq]) [ax, ao, aq] := ⟨hnd, fun _ h => h⟩
  generalize hQe : MQ below _ _ _ _ _ _ = Q
  rcases hsd with ⟨h1, h2, h3⟩ | ⟨h1, h2, h3⟩
  · skip
    have hA : a0 = ao := h2.symm
    have hB9 : a1 = aq := h3.symm
    refine lv_aload_n hx hb dX5_setUp_0 rfl (lv_at hl 0 rfl) ?_
    refine lv_iload_n hx hb dX5_setUp_1 rfl (lv_at hl 1 rfl) ?_
    refine va_put (D := (dC, dI)) (ci := 2) (v := .int (nI j)) (ty := .int) (C := RX5) (T := TX5) (N := 9) hx hb hts hinX5 tyX5 tyX5_ok nmX5 hown hK hP (hDD.va rfl) hS 0 rfl rfl 4 (by decide) (hts (.fieldLink RX5 135 "RoyalUrTable" "piecesOfEach" "I") (List.mem_of_getElem? (i := 1) rfl)) (fun _ h9 => h9) rfl (by decide +kernel) rfl rfl (Nat.le_of_ble_eq_true rfl) dX5_setUp_2 (fun H locs hP hD9 hS => ?_)
    have hP : va_P (dC, dI) vwCl [(ax, .inr (2, [.ref a0, .ref a1, .ref ae, .ref aw, .int (nI j), .int tI, .int mk, .int wn, .int cnt])), (ao, .inr (1, [.long lx, .int lo])), (aq, .inr (1, [.long ly, .int lq]))] H := hP
    refine lv_aload_n hx hb dX5_setUp_5 rfl (lv_at hl 0 rfl) ?_
    refine va_get (D := (dC, dI)) (ci := 2) (v := .ref a0) (C := RX5) (T := TX5) (N := 9) hx hb hts hinX5 hown hK hP 0 rfl rfl 0 (by decide) (hts (.fieldLink RX5 10 "RoyalUrTable" "side0" "LRoyalUrTable$Side;") (List.mem_of_getElem? (i := 2) rfl)) (fun _ h9 => h9) rfl dX5_setUp_6 ?_
    refine zz_r (y := ao) hA ?_
    refine lv_iload_n hx hb dX5_setUp_9 rfl (lv_at hl 1 rfl) ?_
    refine zro_l (va_runS (As := [.int (nI j)]) (rest := [.ref ao]) ⟨hx, hb, hml, hown, hts⟩ (c_X2_allAtStart l j (by omega)) (va_cwS 1 hts gX5_setUp_X2_allAtStart rfl rfl rfl (by decide +kernel) ⟨Nat.le_of_ble_eq_true rfl, Nat.le_of_ble_eq_true rfl⟩) zPu rfl rfl hl.1 rfl (lv_room (Nat.le_of_ble_eq_true rfl)) dX5_setUp_10 ⟨Nat.zero_le _, Nat.zero_le _⟩) hP hS (fun H locs hP hS => ?_)
    refine va_put (D := (dC, dI)) (ci := 1) (v := .long (lN j)) (ty := .long) (C := RX3) (T := TX3) (N := 2) hx hb hts hinX3 tyX3 tyX3_ok nmX3 hown hK hP (hDD.va rfl) hS 1 rfl rfl 0 (by decide) (hts (.fieldLink RX5 70 "RoyalUrTable$Side" "layout" "J") (List.mem_of_getElem? (i := 3) rfl)) (fun _ h9 => h9) rfl (by decide +kernel) rfl rfl (Nat.le_of_ble_eq_true rfl) dX5_setUp_13 (fun H locs hP hD9 hS => ?_)
    have hP : va_P (dC, dI) vwCl [(ax, .inr (2, [.ref a0, .ref a1, .ref ae, .ref aw, .int (nI j), .int tI, .int mk, .int wn, .int cnt])), (ao, .inr (1, [.long (lN j), .int lo])), (aq, .inr (1, [.long ly, .int lq]))] H := hP
    refine lv_aload_n hx hb dX5_setUp_16 rfl (lv_at hl 0 rfl) ?_
    refine va_get (D := (dC, dI)) (ci := 2) (v := .ref a1) (C := RX5) (T := TX5) (N := 9) hx hb hts hinX5 hown hK hP 0 rfl rfl 1 (by decide) (hts (.fieldLink RX5 16 "RoyalUrTable" "side1" "LRoyalUrTable$Side;") (List.mem_of_getElem? (i := 4) rfl)) (fun _ h9 => h9) rfl dX5_setUp_17 ?_
    refine zz_r (y := aq) hB9 ?_
    refine lv_iload_n hx hb dX5_setUp_20 rfl (lv_at hl 1 rfl) ?_
    refine zro_l (va_runS (As := [.int (nI j)]) (rest := [.ref aq]) ⟨hx, hb, hml, hown, hts⟩ (c_X2_allAtStart l j (by omega)) (va_cwS 1 hts gX5_setUp_X2_allAtStart rfl rfl rfl (by decide +kernel) ⟨Nat.le_of_ble_eq_true rfl, Nat.le_of_ble_eq_true rfl⟩) zPu rfl rfl hl.1 rfl (lv_room (Nat.le_of_ble_eq_true rfl)) dX5_setUp_21 ⟨Nat.zero_le _, Nat.zero_le _⟩) hP hS (fun H locs hP hS => ?_)
    refine va_put (D := (dC, dI)) (ci := 1) (v := .long (lN j)) (ty := .long) (C := RX3) (T := TX3) (N := 2) hx hb hts hinX3 tyX3 tyX3_ok nmX3 hown hK hP (hDD.va rfl) hS 2 rfl rfl 0 (by decide) (hts (.fieldLink RX5 70 "RoyalUrTable$Side" "layout" "J") (List.mem_of_getElem? (i := 3) rfl)) (fun _ h9 => h9) rfl (by decide +kernel) rfl rfl (Nat.le_of_ble_eq_true rfl) dX5_setUp_24 (fun H locs hP hD9 hS => ?_)
    have hP : va_P (dC, dI) vwCl [(ax, .inr (2, [.ref a0, .ref a1, .ref ae, .ref aw, .int (nI j), .int tI, .int mk, .int wn, .int cnt])), (ao, .inr (1, [.long (lN j), .int lo])), (aq, .inr (1, [.long (lN j), .int lq]))] H := hP
    refine lv_aload_n hx hb dX5_setUp_27 rfl (lv_at hl 0 rfl) ?_
    refine va_get (D := (dC, dI)) (ci := 2) (v := .ref a0) (C := RX5) (T := TX5) (N := 9) hx hb hts hinX5 hown hK hP 0 rfl rfl 0 (by decide) (hts (.fieldLink RX5 10 "RoyalUrTable" "side0" "LRoyalUrTable$Side;") (List.mem_of_getElem? (i := 2) rfl)) (fun _ h9 => h9) rfl dX5_setUp_28 ?_
    refine zz_r (y := ao) hA ?_
    refine lv_iconst (v := 0) hx hb dX5_setUp_31 (by decide) ?_
    refine va_put (D := (dC, dI)) (ci := 1) (v := .int 0) (ty := .int) (C := RX3) (T := TX3) (N := 2) hx hb hts hinX3 tyX3 tyX3_ok nmX3 hown hK hP (hDD.va rfl) hS 1 rfl rfl 1 (by decide) (hts (.fieldLink RX5 84 "RoyalUrTable$Side" "lost" "I") (List.mem_of_getElem? (i := 5) rfl)) (fun _ h9 => h9) rfl (by decide +kernel) rfl rfl (Nat.le_of_ble_eq_true rfl) dX5_setUp_32 (fun H locs hP hD9 hS => ?_)
    have hP : va_P (dC, dI) vwCl [(ax, .inr (2, [.ref a0, .ref a1, .ref ae, .ref aw, .int (nI j), .int tI, .int mk, .int wn, .int cnt])), (ao, .inr (1, [.long (lN j), .int 0])), (aq, .inr (1, [.long (lN j), .int lq]))] H := hP
    refine lv_aload_n hx hb dX5_setUp_35 rfl (lv_at hl 0 rfl) ?_
    refine va_get (D := (dC, dI)) (ci := 2) (v := .ref a1) (C := RX5) (T := TX5) (N := 9) hx hb hts hinX5 hown hK hP 0 rfl rfl 1 (by decide) (hts (.fieldLink RX5 16 "RoyalUrTable" "side1" "LRoyalUrTable$Side;") (List.mem_of_getElem? (i := 4) rfl)) (fun _ h9 => h9) rfl dX5_setUp_36 ?_
    refine zz_r (y := aq) hB9 ?_
    refine lv_iconst (v := 0) hx hb dX5_setUp_39 (by decide) ?_
    refine va_put (D := (dC, dI)) (ci := 1) (v := .int 0) (ty := .int) (C := RX3) (T := TX3) (N := 2) hx hb hts hinX3 tyX3 tyX3_ok nmX3 hown hK hP (hDD.va rfl) hS 2 rfl rfl 1 (by decide) (hts (.fieldLink RX5 84 "RoyalUrTable$Side" "lost" "I") (List.mem_of_getElem? (i := 5) rfl)) (fun _ h9 => h9) rfl (by decide +kernel) rfl rfl (Nat.le_of_ble_eq_true rfl) dX5_setUp_40 (fun H locs hP hD9 hS => ?_)
    have hP : va_P (dC, dI) vwCl [(ax, .inr (2, [.ref a0, .ref a1, .ref ae, .ref aw, .int (nI j), .int tI, .int mk, .int wn, .int cnt])), (ao, .inr (1, [.long (lN j), .int 0])), (aq, .inr (1, [.long (lN j), .int 0]))] H := hP
    refine lv_aload_n hx hb dX5_setUp_43 rfl (lv_at hl 0 rfl) ?_
    refine lv_iconst (v := 0) hx hb dX5_setUp_44 (by decide) ?_
    refine va_put (D := (dC, dI)) (ci := 2) (v := .int 0) (ty := .int) (C := RX5) (T := TX5) (N := 9) hx hb hts hinX5 tyX5 tyX5_ok nmX5 hown hK hP (hDD.va rfl) hS 0 rfl rfl 5 (by decide) (hts (.fieldLink RX5 59 "RoyalUrTable" "turn" "I") (List.mem_of_getElem? (i := 6) rfl)) (fun _ h9 => h9) rfl (by decide +kernel) rfl rfl (Nat.le_of_ble_eq_true rfl) dX5_setUp_45 (fun H locs hP hD9 hS => ?_)
    have hP : va_P (dC, dI) vwCl [(ax, .inr (2, [.ref a0, .ref a1, .ref ae, .ref aw, .int (nI j), .int 0, .int mk, .int wn, .int cnt])), (ao, .inr (1, [.long (lN j), .int 0])), (aq, .inr (1, [.long (lN j), .int 0]))] H := hP
    refine lv_aload_n hx hb dX5_setUp_48 rfl (lv_at hl 0 rfl) ?_
    refine lv_iconst (v := -1) hx hb dX5_setUp_49 (by decide) ?_
    refine va_put (D := (dC, dI)) (ci := 2) (v := .int (-1)) (ty := .int) (C := RX5) (T := TX5) (N := 9) hx hb hts hinX5 tyX5 tyX5_ok nmX5 hown hK hP (hDD.va rfl) hS 0 rfl rfl 6 (by decide) (hts (.fieldLink RX5 46 "RoyalUrTable" "marksTold" "I") (List.mem_of_getElem? (i := 7) rfl)) (fun _ h9 => h9) rfl (by decide +kernel) rfl rfl (Nat.le_of_ble_eq_true rfl) dX5_setUp_50 (fun H locs hP hD9 hS => ?_)
    have hP : va_P (dC, dI) vwCl [(ax, .inr (2, [.ref a0, .ref a1, .ref ae, .ref aw, .int (nI j), .int 0, .int (-1), .int wn, .int cnt])), (ao, .inr (1, [.long (lN j), .int 0])), (aq, .inr (1, [.long (lN j), .int 0]))] H := hP
    refine lv_aload_n hx hb dX5_setUp_53 rfl (lv_at hl 0 rfl) ?_
    refine lv_iconst (v := -1) hx hb dX5_setUp_54 (by decide) ?_
    refine va_put (D := (dC, dI)) (ci := 2) (v := .int (-1)) (ty := .int) (C := RX5) (T := TX5) (N := 9) hx hb hts hinX5 tyX5 tyX5_ok nmX5 hown hK hP (hDD.va rfl) hS 0 rfl rfl 7 (by decide) (hts (.fieldLink RX5 42 "RoyalUrTable" "winner" "I") (List.mem_of_getElem? (i := 8) rfl)) (fun _ h9 => h9) rfl (by decide +kernel) rfl rfl (Nat.le_of_ble_eq_true rfl) dX5_setUp_55 (fun H locs hP hD9 hS => ?_)
    have hP : va_P (dC, dI) vwCl [(ax, .inr (2, [.ref a0, .ref a1, .ref ae, .ref aw, .int (nI j), .int 0, .int (-1), .int (-1), .int cnt])), (ao, .inr (1, [.long (lN j), .int 0])), (aq, .inr (1, [.long (lN j), .int 0]))] H := hP
    refine lv_aload_n hx hb dX5_setUp_58 rfl (lv_at hl 0 rfl) ?_
    refine lv_iconst (v := 0) hx hb dX5_setUp_59 (by decide) ?_
    refine va_put (D := (dC, dI)) (ci := 2) (v := .int 0) (ty := .int) (C := RX5) (T := TX5) (N := 9) hx hb hts hinX5 tyX5 tyX5_ok nmX5 hown hK hP (hDD.va rfl) hS 0 rfl rfl 8 (by decide) (hts (.fieldLink RX5 52 "RoyalUrTable" "throwsTold" "I") (List.mem_of_getElem? (i := 9) rfl)) (fun _ h9 => h9) rfl (by decide +kernel) rfl rfl (Nat.le_of_ble_eq_true rfl) dX5_setUp_60 (fun H locs hP hD9 hS => ?_)
    have hP : va_P (dC, dI) vwCl [(ax, .inr (2, [.ref a0, .ref a1, .ref ae, .ref aw, .int (nI j), .int 0, .int (-1), .int (-1), .int 0])), (ao, .inr (1, [.long (lN j), .int 0])), (aq, .inr (1, [.long (lN j), .int 0]))] H := hP
    subst hQe
    exact W.vret hx hb hr (fun t ht hW => ⟨⟨(), rfl, trivial, zh ht hP⟩, hS.F ht⟩) hS.2.2 dX5_setUp_63
  · skip
    have hA : a0 = aq := h3.symm
    have hB9 : a1 = ao := h2.symm
    refine lv_aload_n hx hb dX5_setUp_0 rfl (lv_at hl 0 rfl) ?_
    refine lv_iload_n hx hb dX5_setUp_1 rfl (lv_at hl 1 rfl) ?_
    refine va_put (D := (dC, dI)) (ci := 2) (v := .int (nI j)) (ty := .int) (C := RX5) (T := TX5) (N := 9) hx hb hts hinX5 tyX5 tyX5_ok nmX5 hown hK hP (hDD.va rfl) hS 0 rfl rfl 4 (by decide) (hts (.fieldLink RX5 135 "RoyalUrTable" "piecesOfEach" "I") (List.mem_of_getElem? (i := 1) rfl)) (fun _ h9 => h9) rfl (by decide +kernel) rfl rfl (Nat.le_of_ble_eq_true rfl) dX5_setUp_2 (fun H locs hP hD9 hS => ?_)
    have hP : va_P (dC, dI) vwCl [(ax, .inr (2, [.ref a0, .ref a1, .ref ae, .ref aw, .int (nI j), .int tI, .int mk, .int wn, .int cnt])), (ao, .inr (1, [.long lx, .int lo])), (aq, .inr (1, [.long ly, .int lq]))] H := hP
    refine lv_aload_n hx hb dX5_setUp_5 rfl (lv_at hl 0 rfl) ?_
    refine va_get (D := (dC, dI)) (ci := 2) (v := .ref a0) (C := RX5) (T := TX5) (N := 9) hx hb hts hinX5 hown hK hP 0 rfl rfl 0 (by decide) (hts (.fieldLink RX5 10 "RoyalUrTable" "side0" "LRoyalUrTable$Side;") (List.mem_of_getElem? (i := 2) rfl)) (fun _ h9 => h9) rfl dX5_setUp_6 ?_
    refine zz_r (y := aq) hA ?_
    refine lv_iload_n hx hb dX5_setUp_9 rfl (lv_at hl 1 rfl) ?_
    refine zro_l (va_runS (As := [.int (nI j)]) (rest := [.ref aq]) ⟨hx, hb, hml, hown, hts⟩ (c_X2_allAtStart l j (by omega)) (va_cwS 1 hts gX5_setUp_X2_allAtStart rfl rfl rfl (by decide +kernel) ⟨Nat.le_of_ble_eq_true rfl, Nat.le_of_ble_eq_true rfl⟩) zPu rfl rfl hl.1 rfl (lv_room (Nat.le_of_ble_eq_true rfl)) dX5_setUp_10 ⟨Nat.zero_le _, Nat.zero_le _⟩) hP hS (fun H locs hP hS => ?_)
    refine va_put (D := (dC, dI)) (ci := 1) (v := .long (lN j)) (ty := .long) (C := RX3) (T := TX3) (N := 2) hx hb hts hinX3 tyX3 tyX3_ok nmX3 hown hK hP (hDD.va rfl) hS 2 rfl rfl 0 (by decide) (hts (.fieldLink RX5 70 "RoyalUrTable$Side" "layout" "J") (List.mem_of_getElem? (i := 3) rfl)) (fun _ h9 => h9) rfl (by decide +kernel) rfl rfl (Nat.le_of_ble_eq_true rfl) dX5_setUp_13 (fun H locs hP hD9 hS => ?_)
    have hP : va_P (dC, dI) vwCl [(ax, .inr (2, [.ref a0, .ref a1, .ref ae, .ref aw, .int (nI j), .int tI, .int mk, .int wn, .int cnt])), (ao, .inr (1, [.long lx, .int lo])), (aq, .inr (1, [.long (lN j), .int lq]))] H := hP
    refine lv_aload_n hx hb dX5_setUp_16 rfl (lv_at hl 0 rfl) ?_
    refine va_get (D := (dC, dI)) (ci := 2) (v := .ref a1) (C := RX5) (T := TX5) (N := 9) hx hb hts hinX5 hown hK hP 0 rfl rfl 1 (by decide) (hts (.fieldLink RX5 16 "RoyalUrTable" "side1" "LRoyalUrTable$Side;") (List.mem_of_getElem? (i := 4) rfl)) (fun _ h9 => h9) rfl dX5_setUp_17 ?_
    refine zz_r (y := ao) hB9 ?_
    refine lv_iload_n hx hb dX5_setUp_20 rfl (lv_at hl 1 rfl) ?_
    refine zro_l (va_runS (As := [.int (nI j)]) (rest := [.ref ao]) ⟨hx, hb, hml, hown, hts⟩ (c_X2_allAtStart l j (by omega)) (va_cwS 1 hts gX5_setUp_X2_allAtStart rfl rfl rfl (by decide +kernel) ⟨Nat.le_of_ble_eq_true rfl, Nat.le_of_ble_eq_true rfl⟩) zPu rfl rfl hl.1 rfl (lv_room (Nat.le_of_ble_eq_true rfl)) dX5_setUp_21 ⟨Nat.zero_le _, Nat.zero_le _⟩) hP hS (fun H locs hP hS => ?_)
    refine va_put (D := (dC, dI)) (ci := 1) (v := .long (lN j)) (ty := .long) (C := RX3) (T := TX3) (N := 2) hx hb hts hinX3 tyX3 tyX3_ok nmX3 hown hK hP (hDD.va rfl) hS 1 rfl rfl 0 (by decide) (hts (.fieldLink RX5 70 "RoyalUrTable$Side" "layout" "J") (List.mem_of_getElem? (i := 3) rfl)) (fun _ h9 => h9) rfl (by decide +kernel) rfl rfl (Nat.le_of_ble_eq_true rfl) dX5_setUp_24 (fun H locs hP hD9 hS => ?_)
    have hP : va_P (dC, dI) vwCl [(ax, .inr (2, [.ref a0, .ref a1, .ref ae, .ref aw, .int (nI j), .int tI, .int mk, .int wn, .int cnt])), (ao, .inr (1, [.long (lN j), .int lo])), (aq, .inr (1, [.long (lN j), .int lq]))] H := hP
    refine lv_aload_n hx hb dX5_setUp_27 rfl (lv_at hl 0 rfl) ?_
    refine va_get (D := (dC, dI)) (ci := 2) (v := .ref a0) (C := RX5) (T := TX5) (N := 9) hx hb hts hinX5 hown hK hP 0 rfl rfl 0 (by decide) (hts (.fieldLink RX5 10 "RoyalUrTable" "side0" "LRoyalUrTable$Side;") (List.mem_of_getElem? (i := 2) rfl)) (fun _ h9 => h9) rfl dX5_setUp_28 ?_
    refine zz_r (y := aq) hA ?_
    refine lv_iconst (v := 0) hx hb dX5_setUp_31 (by decide) ?_
    refine va_put (D := (dC, dI)) (ci := 1) (v := .int 0) (ty := .int) (C := RX3) (T := TX3) (N := 2) hx hb hts hinX3 tyX3 tyX3_ok nmX3 hown hK hP (hDD.va rfl) hS 2 rfl rfl 1 (by decide) (hts (.fieldLink RX5 84 "RoyalUrTable$Side" "lost" "I") (List.mem_of_getElem? (i := 5) rfl)) (fun _ h9 => h9) rfl (by decide +kernel) rfl rfl (Nat.le_of_ble_eq_true rfl) dX5_setUp_32 (fun H locs hP hD9 hS => ?_)
    have hP : va_P (dC, dI) vwCl [(ax, .inr (2, [.ref a0, .ref a1, .ref ae, .ref aw, .int (nI j), .int tI, .int mk, .int wn, .int cnt])), (ao, .inr (1, [.long (lN j), .int lo])), (aq, .inr (1, [.long (lN j), .int 0]))] H := hP
    refine lv_aload_n hx hb dX5_setUp_35 rfl (lv_at hl 0 rfl) ?_
    refine va_get (D := (dC, dI)) (ci := 2) (v := .ref a1) (C := RX5) (T := TX5) (N := 9) hx hb hts hinX5 hown hK hP 0 rfl rfl 1 (by decide) (hts (.fieldLink RX5 16 "RoyalUrTable" "side1" "LRoyalUrTable$Side;") (List.mem_of_getElem? (i := 4) rfl)) (fun _ h9 => h9) rfl dX5_setUp_36 ?_
    refine zz_r (y := ao) hB9 ?_
    refine lv_iconst (v := 0) hx hb dX5_setUp_39 (by decide) ?_
    refine va_put (D := (dC, dI)) (ci := 1) (v := .int 0) (ty := .int) (C := RX3) (T := TX3) (N := 2) hx hb hts hinX3 tyX3 tyX3_ok nmX3 hown hK hP (hDD.va rfl) hS 1 rfl rfl 1 (by decide) (hts (.fieldLink RX5 84 "RoyalUrTable$Side" "lost" "I") (List.mem_of_getElem? (i := 5) rfl)) (fun _ h9 => h9) rfl (by decide +kernel) rfl rfl (Nat.le_of_ble_eq_true rfl) dX5_setUp_40 (fun H locs hP hD9 hS => ?_)
    have hP : va_P (dC, dI) vwCl [(ax, .inr (2, [.ref a0, .ref a1, .ref ae, .ref aw, .int (nI j), .int tI, .int mk, .int wn, .int cnt])), (ao, .inr (1, [.long (lN j), .int 0])), (aq, .inr (1, [.long (lN j), .int 0]))] H := hP
    refine lv_aload_n hx hb dX5_setUp_43 rfl (lv_at hl 0 rfl) ?_
    refine lv_iconst (v := 0) hx hb dX5_setUp_44 (by decide) ?_
    refine va_put (D := (dC, dI)) (ci := 2) (v := .int 0) (ty := .int) (C := RX5) (T := TX5) (N := 9) hx hb hts hinX5 tyX5 tyX5_ok nmX5 hown hK hP (hDD.va rfl) hS 0 rfl rfl 5 (by decide) (hts (.fieldLink RX5 59 "RoyalUrTable" "turn" "I") (List.mem_of_getElem? (i := 6) rfl)) (fun _ h9 => h9) rfl (by decide +kernel) rfl rfl (Nat.le_of_ble_eq_true rfl) dX5_setUp_45 (fun H locs hP hD9 hS => ?_)
    have hP : va_P (dC, dI) vwCl [(ax, .inr (2, [.ref a0, .ref a1, .ref ae, .ref aw, .int (nI j), .int 0, .int mk, .int wn, .int cnt])), (ao, .inr (1, [.long (lN j), .int 0])), (aq, .inr (1, [.long (lN j), .int 0]))] H := hP
    refine lv_aload_n hx hb dX5_setUp_48 rfl (lv_at hl 0 rfl) ?_
    refine lv_iconst (v := -1) hx hb dX5_setUp_49 (by decide) ?_
    refine va_put (D := (dC, dI)) (ci := 2) (v := .int (-1)) (ty := .int) (C := RX5) (T := TX5) (N := 9) hx hb hts hinX5 tyX5 tyX5_ok nmX5 hown hK hP (hDD.va rfl) hS 0 rfl rfl 6 (by decide) (hts (.fieldLink RX5 46 "RoyalUrTable" "marksTold" "I") (List.mem_of_getElem? (i := 7) rfl)) (fun _ h9 => h9) rfl (by decide +kernel) rfl rfl (Nat.le_of_ble_eq_true rfl) dX5_setUp_50 (fun H locs hP hD9 hS => ?_)
    have hP : va_P (dC, dI) vwCl [(ax, .inr (2, [.ref a0, .ref a1, .ref ae, .ref aw, .int (nI j), .int 0, .int (-1), .int wn, .int cnt])), (ao, .inr (1, [.long (lN j), .int 0])), (aq, .inr (1, [.long (lN j), .int 0]))] H := hP
    refine lv_aload_n hx hb dX5_setUp_53 rfl (lv_at hl 0 rfl) ?_
    refine lv_iconst (v := -1) hx hb dX5_setUp_54 (by decide) ?_
    refine va_put (D := (dC, dI)) (ci := 2) (v := .int (-1)) (ty := .int) (C := RX5) (T := TX5) (N := 9) hx hb hts hinX5 tyX5 tyX5_ok nmX5 hown hK hP (hDD.va rfl) hS 0 rfl rfl 7 (by decide) (hts (.fieldLink RX5 42 "RoyalUrTable" "winner" "I") (List.mem_of_getElem? (i := 8) rfl)) (fun _ h9 => h9) rfl (by decide +kernel) rfl rfl (Nat.le_of_ble_eq_true rfl) dX5_setUp_55 (fun H locs hP hD9 hS => ?_)
    have hP : va_P (dC, dI) vwCl [(ax, .inr (2, [.ref a0, .ref a1, .ref ae, .ref aw, .int (nI j), .int 0, .int (-1), .int (-1), .int cnt])), (ao, .inr (1, [.long (lN j), .int 0])), (aq, .inr (1, [.long (lN j), .int 0]))] H := hP
    refine lv_aload_n hx hb dX5_setUp_58 rfl (lv_at hl 0 rfl) ?_
    refine lv_iconst (v := 0) hx hb dX5_setUp_59 (by decide) ?_
    refine va_put (D := (dC, dI)) (ci := 2) (v := .int 0) (ty := .int) (C := RX5) (T := TX5) (N := 9) hx hb hts hinX5 tyX5 tyX5_ok nmX5 hown hK hP (hDD.va rfl) hS 0 rfl rfl 8 (by decide) (hts (.fieldLink RX5 52 "RoyalUrTable" "throwsTold" "I") (List.mem_of_getElem? (i := 9) rfl)) (fun _ h9 => h9) rfl (by decide +kernel) rfl rfl (Nat.le_of_ble_eq_true rfl) dX5_setUp_60 (fun H locs hP hD9 hS => ?_)
    have hP : va_P (dC, dI) vwCl [(ax, .inr (2, [.ref a0, .ref a1, .ref ae, .ref aw, .int (nI j), .int 0, .int (-1), .int (-1), .int 0])), (ao, .inr (1, [.long (lN j), .int 0])), (aq, .inr (1, [.long (lN j), .int 0]))] H := hP
    subst hQe
    exact W.vret hx hb hr (fun t ht hW => ⟨⟨(), rfl, trivial, zh ht hP⟩, hS.F ht⟩) hS.2.2 dX5_setUp_63

set_option maxHeartbeats 4000000 in
set_option maxRecDepth 100000 in
theorem c_X5_begin (l : Launch) (hl0 : l.stackTraces = false) (dC : Nat → ClassId) (dI : Nat → Nat → Nat) (cyI cyJ : ClassId) (tb ax a0 a1 ae aw ao aq tn9 : Nat) (pI tI mk wn cnt lo lq : Int32) (lx ly : Int64) (hsd : zSd tn9 a0 a1 ao aq) (v : Int32) (hnd : [ax, ao, aq].Nodup) : vx_Met l yX5_begin wsX5_begin ({ frames := 7, cells := 1, slots := 6, locals := 112 }) (zPc [.ref ax, .int v] (dC, dI) vwCl [(cyI, .int)] [(ax, .inr (2, [.ref a0, .ref a1, .ref ae, .ref aw, .int pI, .int tI, .int mk, .int wn, .int cnt])), (ao, .inr (1, [.long lx, .int lo])), (aq, .inr (1, [.long ly, .int lq]))] (fun U => zG tb (zA [ax, ao, aq]) U U.heap)) (va_Qv (fun (u : Nat) => 1 ≤ u ∧ u ≤ 4 ∧ v = nI u) (fun (u : Nat) t => va_P (dC, dI) vwCl ([(ax, .inr (2, [.ref a0, .ref a1, .ref ae, .ref aw, .int (nI u), .int 0, .int (-1), .int (-1), .int 0])), (ao, .inr (1, [.long (lN u), .int 0])), (aq, .inr (1, [.long (lN u), .int 0]))]) t.heap) (zA [ax, ao, aq])) (vx_X (fun (_ : Unit) => True) (fun (E : String) _ _ => E = zIA ∧ ¬ (1 ≤ v ∧ v ≤ 4)) zF) 1 6 (zA [ax, ao, aq]) := by
  refine vx_ofW (cc := cX5_begin) (maxL := 2) (ret := none) (by decide) rfl ?_
  intro p e s m args below meth c s₁ B hml hnt hv
  obtain ⟨rfl, hP, hK, hX⟩ := hv
  have hx := B.exec
  have hb := B.bytes
  have hr := B.returns
  have hts := atoms_spec (ws := wsX5_begin) B.pre
  have hown : s.vm.findClass RX5 = some m.cls := findClass_of_methodNamed B.named
  have hlocks := B.notSynchronized
  have hl := lv_entry ([.ref ax, .int v]) (n := 2) (Nat.le_of_ble_eq_true rfl)
  rw [lg_entry_eq]
  generalize (lg_sl ([.ref ax, .int v]) ++ List.replicate (2 - (lg_sl ([.ref ax, .int v])).length) Slot.unset).toArray = ls at hl ⊢
  have hl : lv_has ls 2 [(0, .ref ax), (1, .int v)] := hl
  have hS : va_S zF s.heap s.heap [] := va_S.rf
  have hl9 := hl.1.trans hml.symm
  have hY : zY zF s s.heap := (hX.2).narrow zF_A
  have hDD : zD (zA [ax, ao, aq]) [ax, ao, aq] := ⟨hnd, fun _ h => h⟩
  refine lv_iload_n hx hb dX5_begin_0 rfl (lv_at hl 1 rfl) ?_
  refine lv_iconst (v := 1) hx hb dX5_begin_1 (by decide) ?_
  refine lv_iconst (v := 4) hx hb dX5_begin_2 (by decide) ?_
  refine zth_v (m1 := 1) (s1 := 6) (vx_runS (As := [.int v, .int 1, .int 4]) (rest := []) ⟨hx, hb, hml, hown, hts⟩ (c_X5_refuseOutside l hl0 v 1 4) (va_cwS 3 hts gX5_begin_X5_refuseOutside rfl rfl rfl (by decide +kernel) ⟨Nat.le_of_ble_eq_true rfl, Nat.le_of_ble_eq_true rfl⟩) (zPx zB_Y (zY_at hY hS zF_A)) rfl rfl hl.1 rfl (lv_room (Nat.le_of_ble_eq_true rfl)) dX5_begin_3 ⟨Nat.le_of_ble_eq_true rfl, Nat.le_of_ble_eq_true rfl⟩) hP hS (fun x hx9 => (hnt x hx9).elim) hlocks (fun hN t ht => ⟨(), trivial, ⟨rfl, hN⟩, ht⟩) (Nat.le_of_ble_eq_true rfl) (Nat.le_of_ble_eq_true rfl) (fun H locs hG_3 hP hS => ?_)
  obtain ⟨j, hj0, hj, rfl⟩ := (zin1_iff (n := 4) (by decide)).mp hG_3
  have hS : va_S (zA [ax, ao, aq]) s.heap H locs := zS_w hS
  refine lv_aload_n hx hb dX5_begin_6 rfl (lv_at hl 0 rfl) ?_
  refine lv_iload_n hx hb dX5_begin_7 rfl (lv_at hl 1 rfl) ?_
  refine zrw_v (w1 := fun _ : Unit => [(ax, .inr (2, [.ref a0, .ref a1, .ref ae, .ref aw, .int (nI j), .int 0, .int (-1), .int (-1), .int 0])), (ao, .inr (1, [.long (lN j), .int 0])), (aq, .inr (1, [.long (lN j), .int 0]))]) (al := [ax, ao, aq]) (va_runV (As := [.int (nI j)]) (rest := []) ⟨hx, hb, hml, hown, hts⟩ (c_X5_setUp l dC dI cyI cyJ ax a0 a1 ae aw ao aq tn9 pI tI mk wn cnt lo lq lx ly hsd j (by omega) hDD.1) (cwV 1 hts gX5_begin_X5_setUp rfl rfl rfl (by decide +kernel) ⟨Nat.le_of_ble_eq_true rfl, Nat.le_of_ble_eq_true rfl⟩) (zPc_V (ci := 2) (q0 := 0) zB_T hP hK rfl rfl [0, 1, 2] rfl (fun _ _ _ => trivial)) rfl rfl hl.1 rfl (lv_room (Nat.le_of_ble_eq_true rfl)) dX5_begin_8 ⟨Nat.le_of_ble_eq_true rfl, Nat.le_of_ble_eq_true rfl⟩) hP hDD hS [0, 1, 2] rfl (fun _ => rfl) (fun u_8 H locs hw_8 hP hS => ?_)
  have hP : va_P (dC, dI) vwCl [(ax, .inr (2, [.ref a0, .ref a1, .ref ae, .ref aw, .int (nI j), .int 0, .int (-1), .int (-1), .int 0])), (ao, .inr (1, [.long (lN j), .int 0])), (aq, .inr (1, [.long (lN j), .int 0]))] H := hP
  refine vx_ret (mc := 1) (ms := 6) ?_
  refine W.widen (k := 1) (n := 6) (Nat.le_of_ble_eq_true rfl) (Nat.le_of_ble_eq_true rfl) ?_
  exact W.vret hx hb hr (fun t ht hW => ⟨⟨j, rfl, ⟨hj0, hj, rfl⟩, zh ht hP⟩, hS.F ht⟩) hS.2.2 dX5_begin_11

set_option maxHeartbeats 4000000 in
set_option maxRecDepth 100000 in
theorem c_X5_tell (l : Launch) (hl0 : l.stackTraces = false) (dC : Nat → ClassId) (dI : Nat → Nat → Nat) (cyI cyJ : ClassId) (tb ax a0 a1 ae aw ao aq : Nat) (mk wn cnt lo lq : Int32) (k tn own oth mm : Nat) (hsd : zSd tn a0 a1 ao aq) (hO : zok k own) (hQ : zok k oth) (hmk : zmk mk mm) (hmm : mm ≤ 4) (v : Int32) (hnd : [ax, ao, aq].Nodup) : vx_Met l yX5_tell wsX5_tell ({ frames := 7, cells := 2, slots := 12, locals := 112 }) (zPc [.ref ax, .int v] (dC, dI) vwCl [(cyI, .int)] [(ax, .inr (2, [.ref a0, .ref a1, .ref ae, .ref aw, .int (nI k), .int (nI tn), .int mk, .int wn, .int cnt])), (ao, .inr (1, [.long (lN own), .int lo])), (aq, .inr (1, [.long (lN oth), .int lq]))] (fun U => zG tb (zA [ax, ao, aq]) U U.heap)) (va_Qi (fun (r : Int32) (u : Int32 × Int32) => ∃ mj, mj ≤ 4 ∧ v = nI mj ∧ wn = -1 ∧ mk = -1 ∧ r = nI (zNum own oth mj 15) ∧ u.1 = (if zNum own oth mj 15 = 0 then nI (1 - tn) else nI tn) ∧ u.2 = (if zNum own oth mj 15 = 0 then -1 else nI mj)) (fun (u : Int32 × Int32) t => va_P (dC, dI) vwCl ([(ax, .inr (2, [.ref a0, .ref a1, .ref ae, .ref aw, .int (nI k), .int u.1, .int u.2, .int wn, .int (cnt + 1)])), (ao, .inr (1, [.long (lN own), .int lo])), (aq, .inr (1, [.long (lN oth), .int lq]))]) t.heap) (zA [ax, ao, aq])) (vx_X (fun (_ : Unit) => True) (fun (E : String) _ _ => (E = zIA ∧ ¬ (0 ≤ v ∧ v ≤ 4)) ∨ (E = zIS ∧ (0 ≤ v ∧ v ≤ 4) ∧ ¬ (wn = -1 ∧ mk = -1))) zF) 2 12 (zA [ax, ao, aq]) := by
  refine vx_ofW (cc := cX5_tell) (maxL := 3) (ret := (some .int)) (by decide) rfl ?_
  intro p e s m args below meth c s₁ B hml hnt hv
  obtain ⟨rfl, hP, hK, hX⟩ := hv
  have hx := B.exec
  have hb := B.bytes
  have hr := B.returns
  have hts := atoms_spec (ws := wsX5_tell) B.pre
  have hown : s.vm.findClass RX5 = some m.cls := findClass_of_methodNamed B.named
  have hlocks := B.notSynchronized
  have hinX5 : ∀ w ∈ wsX50, w ∈ wsX5_tell := by decide +kernel
  have hl := lv_entry ([.ref ax, .int v]) (n := 3) (Nat.le_of_ble_eq_true rfl)
  rw [lg_entry_eq]
  generalize (lg_sl ([.ref ax, .int v]) ++ List.replicate (3 - (lg_sl ([.ref ax, .int v])).length) Slot.unset).toArray = ls at hl ⊢
  have hl : lv_has ls 3 [(0, .ref ax), (1, .int v)] := hl
  have hS : va_S zF s.heap s.heap [] := va_S.rf
  have hl9 := hl.1.trans hml.symm
  have hY : zY zF s s.heap := (hX.2).narrow zF_A
  have hDD : zD (zA [ax, ao, aq]) [ax, ao, aq] := ⟨hnd, fun _ h => h⟩
  have htn := zSd_le hsd
  refine lv_iload_n hx hb dX5_tell_0 rfl (lv_at hl 1 rfl) ?_
  refine lv_iconst (v := 0) hx hb dX5_tell_1 (by decide) ?_
  refine lv_iconst (v := 4) hx hb dX5_tell_2 (by decide) ?_
  refine zth_v (m1 := 1) (s1 := 6) (vx_runS (As := [.int v, .int 0, .int 4]) (rest := []) ⟨hx, hb, hml, hown, hts⟩ (c_X5_refuseOutside l hl0 v 0 4) (va_cwS 3 hts gX5_tell_X5_refuseOutside rfl rfl rfl (by decide +kernel) ⟨Nat.le_of_ble_eq_true rfl, Nat.le_of_ble_eq_true rfl⟩) (zPx zB_Y (zY_at hY hS zF_A)) rfl rfl hl.1 rfl (lv_room (Nat.le_of_ble_eq_true rfl)) dX5_tell_3 ⟨Nat.le_of_ble_eq_true rfl, Nat.le_of_ble_eq_true rfl⟩) hP hS (fun x hx9 => (hnt x hx9).elim) hlocks (fun hN t ht => ⟨(), trivial, Or.inl ⟨rfl, hN⟩, ht⟩) (Nat.le_of_ble_eq_true rfl) (Nat.le_of_ble_eq_true rfl) (fun H locs hG_3 hP hS => ?_)
  obtain ⟨mj, hmj, rfl⟩ := (zin_iff (n := 4) (by decide)).mp hG_3
  refine lv_aload_n hx hb dX5_tell_6 rfl (lv_at hl 0 rfl) ?_
  refine va_get (D := (dC, dI)) (ci := 2) (v := .int wn) (C := RX5) (T := TX5) (N := 9) hx hb hts hinX5 hown hK hP 0 rfl rfl 7 (by decide) (hts (.fieldLink RX5 42 "RoyalUrTable" "winner" "I") (List.mem_of_getElem? (i := 3) rfl)) (fun _ h9 => h9) rfl dX5_tell_7 ?_
  refine lv_iconst (v := -1) hx hb dX5_tell_10 (by decide) ?_
  refine lv_icmp_ne (tgt := 22) hx hb dX5_tell_11 (by decide) (fun c_11 => ?_) (fun c_11 => ?_)
  · skip
    exact vx_throw0 (cls := "java/lang/IllegalStateException") (names := ["java/lang/RuntimeException", "java/lang/Exception"]) (ik := 49) (ic := 51) (A := zF) hx hb hl0 hown (by decide +kernel) (by decide +kernel) (hts (.classLink RX5 49 "java/lang/IllegalStateException") (List.mem_of_getElem? (i := 1) rfl)) (hts (.initialized "java/lang/IllegalStateException") (List.mem_of_getElem? (i := 2) rfl)) (vx_hat (fun w h => hts w (List.mem_cons_of_mem _ (List.mem_append_left _ (List.mem_append_right _ h)))) (by decide +kernel) (vx_c (va_Nw.use rfl hY.2.2.1) (vx_c (va_Nw.use rfl hY.2.2.2.1) (vx_c (va_Nw.use rfl hY.2.2.2.2.1) (vx_c (va_Nw.use rfl hY.2.2.2.2.2.2) vx_n))))) (by decide +kernel) hY.1 hY.2.1 hS hl9 dX5_tell_22 dX5_tell_25 dX5_tell_26 dX5_tell_29 (fun x hx9 => (hnt x hx9).elim) (Nat.le_of_ble_eq_true rfl) (Nat.le_of_ble_eq_true rfl) (Nat.le_of_ble_eq_true rfl) (Nat.le_of_ble_eq_true rfl) hlocks (fun t hv hz hk => ⟨(), trivial, Or.inr ⟨rfl, (zin_iff (n := 4) (by decide)).mpr ⟨mj, hmj, rfl⟩, fun h => c_11 h.1⟩, zthx hS hz hk⟩) (fun z hz => (hS.2.2 z hz).elim) (Nat.le_of_ble_eq_true rfl) (Nat.le_of_ble_eq_true rfl)
  · skip
    refine lv_aload_n hx hb dX5_tell_14 rfl (lv_at hl 0 rfl) ?_
    refine va_get (D := (dC, dI)) (ci := 2) (v := .int mk) (C := RX5) (T := TX5) (N := 9) hx hb hts hinX5 hown hK hP 0 rfl rfl 6 (by decide) (hts (.fieldLink RX5 46 "RoyalUrTable" "marksTold" "I") (List.mem_of_getElem? (i := 4) rfl)) (fun _ h9 => h9) rfl dX5_tell_15 ?_
    refine lv_iconst (v := -1) hx hb dX5_tell_18 (by decide) ?_
    refine lv_icmp_eq (tgt := 30) hx hb dX5_tell_19 (by decide) (fun c_19 => ?_) (fun c_19 => ?_)
    · skip
      have hS : va_S (zA [ax, ao, aq]) s.heap H locs := zS_w hS
      refine lv_aload_n hx hb dX5_tell_30 rfl (lv_at hl 0 rfl) ?_
      refine lv_dup hx hb dX5_tell_31 rfl ?_
      refine va_get (D := (dC, dI)) (ci := 2) (v := .int cnt) (C := RX5) (T := TX5) (N := 9) hx hb hts hinX5 hown hK hP 0 rfl rfl 8 (by decide) (hts (.fieldLink RX5 52 "RoyalUrTable" "throwsTold" "I") (List.mem_of_getElem? (i := 5) rfl)) (fun _ h9 => h9) rfl dX5_tell_32 ?_
      refine lv_iconst (v := 1) hx hb dX5_tell_35 (by decide) ?_
      refine lv_iadd hx hb dX5_tell_36 ?_
      refine va_put (D := (dC, dI)) (ci := 2) (v := .int (cnt + 1)) (ty := .int) (C := RX5) (T := TX5) (N := 9) hx hb hts hinX5 tyX5 tyX5_ok nmX5 hown hK hP (hDD.va rfl) hS 0 rfl rfl 8 (by decide) (hts (.fieldLink RX5 52 "RoyalUrTable" "throwsTold" "I") (List.mem_of_getElem? (i := 5) rfl)) (fun _ h9 => h9) rfl (by decide +kernel) rfl rfl (Nat.le_of_ble_eq_true rfl) dX5_tell_37 (fun H locs hP hD9 hS => ?_)
      have hP : va_P (dC, dI) vwCl [(ax, .inr (2, [.ref a0, .ref a1, .ref ae, .ref aw, .int (nI k), .int (nI tn), .int mk, .int wn, .int (cnt + 1)])), (ao, .inr (1, [.long (lN own), .int lo])), (aq, .inr (1, [.long (lN oth), .int lq]))] H := hP
      refine lv_aload_n hx hb dX5_tell_40 rfl (lv_at hl 0 rfl) ?_
      refine lv_iload_n hx hb dX5_tell_41 rfl (lv_at hl 1 rfl) ?_
      refine zro_i (va_runV (As := [.int (nI mj)]) (rest := []) ⟨hx, hb, hml, hown, hts⟩ (c_X5_countMoves l dC dI cyI cyJ ax a0 a1 ae aw ao aq mk wn (cnt + 1) lo lq k tn own oth hsd hO hQ mj (nI mj) (Or.inl rfl) (by omega)) (cwV 1 hts gX5_tell_X5_countMoves rfl rfl rfl (by decide +kernel) ⟨Nat.le_of_ble_eq_true rfl, Nat.le_of_ble_eq_true rfl⟩) (zPc_V (ci := 2) (q0 := 0) zB_T hP hK rfl rfl [0, 1, 2] rfl (fun _ _ _ => trivial)) rfl rfl hl.1 rfl (lv_room (Nat.le_of_ble_eq_true rfl)) dX5_tell_42 ⟨Nat.le_of_ble_eq_true rfl, Nat.le_of_ble_eq_true rfl⟩) hP hS (fun H locs hP hS => ?_)
      have hnl := zNum_le own oth mj 15
      refine lv_istore_n (lv' := [(2, .int (nI (zNum own oth mj 15))), (0, .ref ax), (1, .int (nI mj))]) hx hb dX5_tell_45 rfl hl (by decide) rfl (fun ls hl => ?_)
      refine lv_iload_n hx hb dX5_tell_46 rfl (lv_at hl 0 rfl) ?_
      refine lv_if_ne (tgt := 63) hx hb dX5_tell_47 (by decide) (fun c_47 => ?_) (fun c_47 => ?_)
      · skip
        have c_47 : ¬ (zNum own oth mj 15) = 0 := fun h9 => c_47 ((nI_eq (a := zNum own oth mj 15) (b := 0) (by omega) (by omega)).mpr h9)
        refine lv_aload_n hx hb dX5_tell_63 rfl (lv_at hl 1 rfl) ?_
        refine lv_iload_n hx hb dX5_tell_64 rfl (lv_at hl 2 rfl) ?_
        refine va_put (D := (dC, dI)) (ci := 2) (v := .int (nI mj)) (ty := .int) (C := RX5) (T := TX5) (N := 9) hx hb hts hinX5 tyX5 tyX5_ok nmX5 hown hK hP (hDD.va rfl) hS 0 rfl rfl 6 (by decide) (hts (.fieldLink RX5 46 "RoyalUrTable" "marksTold" "I") (List.mem_of_getElem? (i := 4) rfl)) (fun _ h9 => h9) rfl (by decide +kernel) rfl rfl (Nat.le_of_ble_eq_true rfl) dX5_tell_65 (fun H locs hP hD9 hS => ?_)
        have hP : va_P (dC, dI) vwCl [(ax, .inr (2, [.ref a0, .ref a1, .ref ae, .ref aw, .int (nI k), .int (nI tn), .int (nI mj), .int wn, .int (cnt + 1)])), (ao, .inr (1, [.long (lN own), .int lo])), (aq, .inr (1, [.long (lN oth), .int lq]))] H := hP
        refine lv_iload_n hx hb dX5_tell_68 rfl (lv_at hl 0 rfl) ?_
        refine vx_ret (mc := 2) (ms := 12) ?_
        refine W.widen (k := 2) (n := 12) (Nat.le_of_ble_eq_true rfl) (Nat.le_of_ble_eq_true rfl) ?_
        exact W.iret (v := nI (zNum own oth mj 15)) hx hb hr (fun t ht hW => ⟨⟨_, (nI tn, nI mj), rfl, ⟨mj, hmj, rfl, c_11, c_19, rfl, (if_neg c_47).symm, (if_neg c_47).symm⟩, zh ht hP⟩, hS.F ht⟩) hS.2.2 dX5_tell_69
      · skip
        have c_47 : (zNum own oth mj 15) = 0 := (nI_eq (a := zNum own oth mj 15) (b := 0) (by omega) (by omega)).mp c_47
        refine lv_aload_n hx hb dX5_tell_50 rfl (lv_at hl 1 rfl) ?_
        refine lv_iconst (v := 1) hx hb dX5_tell_51 (by decide) ?_
        refine lv_aload_n hx hb dX5_tell_52 rfl (lv_at hl 1 rfl) ?_
        refine va_get (D := (dC, dI)) (ci := 2) (v := .int (nI tn)) (C := RX5) (T := TX5) (N := 9) hx hb hts hinX5 hown hK hP 0 rfl rfl 5 (by decide) (hts (.fieldLink RX5 59 "RoyalUrTable" "turn" "I") (List.mem_of_getElem? (i := 6) rfl)) (fun _ h9 => h9) rfl dX5_tell_53 ?_
        refine lv_isub hx hb dX5_tell_56 ?_
        refine zz_i (y := nI (1 - tn)) (pk_sub (a := 1) (b := tn) (by omega)) ?_
        refine va_put (D := (dC, dI)) (ci := 2) (v := .int (nI (1 - tn))) (ty := .int) (C := RX5) (T := TX5) (N := 9) hx hb hts hinX5 tyX5 tyX5_ok nmX5 hown hK hP (hDD.va rfl) hS 0 rfl rfl 5 (by decide) (hts (.fieldLink RX5 59 "RoyalUrTable" "turn" "I") (List.mem_of_getElem? (i := 6) rfl)) (fun _ h9 => h9) rfl (by decide +kernel) rfl rfl (Nat.le_of_ble_eq_true rfl) dX5_tell_57 (fun H locs hP hD9 hS => ?_)
        have hP : va_P (dC, dI) vwCl [(ax, .inr (2, [.ref a0, .ref a1, .ref ae, .ref aw, .int (nI k), .int (nI (1 - tn)), .int mk, .int wn, .int (cnt + 1)])), (ao, .inr (1, [.long (lN own), .int lo])), (aq, .inr (1, [.long (lN oth), .int lq]))] H := hP
        refine lv_goto (tgt := 68) hx hb dX5_tell_60 (by decide) ?_
        refine lv_iload_n hx hb dX5_tell_68 rfl (lv_at hl 0 rfl) ?_
        refine vx_ret (mc := 2) (ms := 12) ?_
        refine W.widen (k := 2) (n := 12) (Nat.le_of_ble_eq_true rfl) (Nat.le_of_ble_eq_true rfl) ?_
        exact W.iret (v := nI (zNum own oth mj 15)) hx hb hr (fun t ht hW => ⟨⟨_, (nI (1 - tn), mk), rfl, ⟨mj, hmj, rfl, c_11, c_19, rfl, (if_pos c_47).symm, (by show mk = _; rw [if_pos c_47]; exact c_19)⟩, zh ht hP⟩, hS.F ht⟩) hS.2.2 dX5_tell_69
    · skip
      exact vx_throw0 (cls := "java/lang/IllegalStateException") (names := ["java/lang/RuntimeException", "java/lang/Exception"]) (ik := 49) (ic := 51) (A := zF) hx hb hl0 hown (by decide +kernel) (by decide +kernel) (hts (.classLink RX5 49 "java/lang/IllegalStateException") (List.mem_of_getElem? (i := 1) rfl)) (hts (.initialized "java/lang/IllegalStateException") (List.mem_of_getElem? (i := 2) rfl)) (vx_hat (fun w h => hts w (List.mem_cons_of_mem _ (List.mem_append_left _ (List.mem_append_right _ h)))) (by decide +kernel) (vx_c (va_Nw.use rfl hY.2.2.1) (vx_c (va_Nw.use rfl hY.2.2.2.1) (vx_c (va_Nw.use rfl hY.2.2.2.2.1) (vx_c (va_Nw.use rfl hY.2.2.2.2.2.2) vx_n))))) (by decide +kernel) hY.1 hY.2.1 hS hl9 dX5_tell_22 dX5_tell_25 dX5_tell_26 dX5_tell_29 (fun x hx9 => (hnt x hx9).elim) (Nat.le_of_ble_eq_true rfl) (Nat.le_of_ble_eq_true rfl) (Nat.le_of_ble_eq_true rfl) (Nat.le_of_ble_eq_true rfl) hlocks (fun t hv hz hk => ⟨(), trivial, Or.inr ⟨rfl, (zin_iff (n := 4) (by decide)).mpr ⟨mj, hmj, rfl⟩, fun h => c_19 h.2⟩, zthx hS hz hk⟩) (fun z hz => (hS.2.2 z hz).elim) (Nat.le_of_ble_eq_true rfl) (Nat.le_of_ble_eq_true rfl)

set_option maxHeartbeats 4000000 in
set_option maxRecDepth 100000 in
theorem c_X5_move (l : Launch) (hl0 : l.stackTraces = false) (dC : Nat → ClassId) (dI : Nat → Nat → Nat) (cyI cyJ : ClassId) (tb ax a0 a1 ae aw ao aq : Nat) (mk wn cnt lo lq : Int32) (k tn own oth mm : Nat) (hsd : zSd tn a0 a1 ao aq) (hO : zok k own) (hQ : zok k oth) (hmk : zmk mk mm) (hmm : mm ≤ 4) (v : Int32) (hnd : [ax, ao, aq].Nodup) : vx_Met l yX5_move wsX5_move ({ frames := 7, cells := 2, slots := 12, locals := 112 }) (zPc [.ref ax, .int v] (dC, dI) vwCl [(cyI, .int)] [(ax, .inr (2, [.ref a0, .ref a1, .ref ae, .ref aw, .int (nI k), .int (nI tn), .int mk, .int wn, .int cnt])), (ao, .inr (1, [.long (lN own), .int lo])), (aq, .inr (1, [.long (lN oth), .int lq]))] (fun U => zG tb (zA [ax, ao, aq]) U U.heap)) (va_Qi (fun (r : Int32) (u : Nat × Int32 × Int32 × Nat × Int32) => u.1 ≤ 14 ∧ v = nI u.1 ∧ zcm own oth u.1 mm = true ∧ r = nI (u.1 + mm) ∧ u.2.1 = (if zros (u.1 + mm) = true then nI tn else nI (1 - tn)) ∧ u.2.2.1 = (if zhome (zsh own u.1 (u.1 + mm)) = true then nI tn else wn) ∧ u.2.2.2.1 = (if ztk oth (u.1 + mm) = true then zsh oth (u.1 + mm) 0 else oth) ∧ u.2.2.2.2 = (if ztk oth (u.1 + mm) = true then lq + 1 else lq)) (fun (u : Nat × Int32 × Int32 × Nat × Int32) t => va_P (dC, dI) vwCl ([(ax, .inr (2, [.ref a0, .ref a1, .ref ae, .ref aw, .int (nI k), .int u.2.1, .int (-1), .int u.2.2.1, .int cnt])), (ao, .inr (1, [.long (lN (zsh own u.1 (u.1 + mm))), .int lo])), (aq, .inr (1, [.long (lN u.2.2.2.1), .int u.2.2.2.2]))]) t.heap) (zA [ax, ao, aq])) (vx_X (fun (_ : Unit) => True) (fun (E : String) _ _ => (E = zIA ∧ ¬ (0 ≤ v ∧ v ≤ 14)) ∨ (E = zIS ∧ ∃ fr, fr ≤ 14 ∧ v = nI fr ∧ zcm own oth fr mm = false)) zF) 2 12 (zA [ax, ao, aq]) := by
  refine vx_ofW (cc := cX5_move) (maxL := 5) (ret := (some .int)) (by decide) rfl ?_
  intro p e s m args below meth c s₁ B hml hnt hv
  obtain ⟨rfl, hP, hK, hX⟩ := hv
  have hx := B.exec
  have hb := B.bytes
  have hr := B.returns
  have hts := atoms_spec (ws := wsX5_move) B.pre
  have hown : s.vm.findClass RX5 = some m.cls := findClass_of_methodNamed B.named
  have hlocks := B.notSynchronized
  have hinX3 : ∀ w ∈ wsX30, w ∈ wsX5_move := by decide +kernel
  have hinX5 : ∀ w ∈ wsX50, w ∈ wsX5_move := by decide +kernel
  have hl := lv_entry ([.ref ax, .int v]) (n := 5) (Nat.le_of_ble_eq_true rfl)
  rw [lg_entry_eq]
  generalize (lg_sl ([.ref ax, .int v]) ++ List.replicate (5 - (lg_sl ([.ref ax, .int v])).length) Slot.unset).toArray = ls at hl ⊢
  have hl : lv_has ls 5 [(0, .ref ax), (1, .int v)] := hl
  have hS : va_S zF s.heap s.heap [] := va_S.rf
  have hl9 := hl.1.trans hml.symm
  have hY : zY zF s s.heap := (hX.2).narrow zF_A
  have hDD : zD (zA [ax, ao, aq]) [ax, ao, aq] := ⟨hnd, fun _ h => h⟩
  have htn := zSd_le hsd
  refine lv_iload_n hx hb dX5_move_0 rfl (lv_at hl 1 rfl) ?_
  refine lv_iconst (v := 0) hx hb dX5_move_1 (by decide) ?_
  refine lv_bipush (v := 14) hx hb dX5_move_2 (by decide) ?_
  refine zth_v (m1 := 1) (s1 := 6) (vx_runS (As := [.int v, .int 0, .int 14]) (rest := []) ⟨hx, hb, hml, hown, hts⟩ (c_X5_refuseOutside l hl0 v 0 14) (va_cwS 3 hts gX5_move_X5_refuseOutside rfl rfl rfl (by decide +kernel) ⟨Nat.le_of_ble_eq_true rfl, Nat.le_of_ble_eq_true rfl⟩) (zPx zB_Y (zY_at hY hS zF_A)) rfl rfl hl.1 rfl (lv_room (Nat.le_of_ble_eq_true rfl)) dX5_move_4 ⟨Nat.le_of_ble_eq_true rfl, Nat.le_of_ble_eq_true rfl⟩) hP hS (fun x hx9 => (hnt x hx9).elim) hlocks (fun hN t ht => ⟨(), trivial, Or.inl ⟨rfl, hN⟩, ht⟩) (Nat.le_of_ble_eq_true rfl) (Nat.le_of_ble_eq_true rfl) (fun H locs hG_4 hP hS => ?_)
  obtain ⟨fr, hfr, rfl⟩ := (zin_iff (n := 14) (by decide)).mp hG_4
  refine lv_aload_n hx hb dX5_move_7 rfl (lv_at hl 0 rfl) ?_
  refine lv_iload_n hx hb dX5_move_8 rfl (lv_at hl 1 rfl) ?_
  refine zro_i (va_runV (As := [.int (nI fr)]) (rest := []) ⟨hx, hb, hml, hown, hts⟩ (c_X5_canMoveFrom l dC dI cyI cyJ ax a0 a1 ae aw ao aq mk wn cnt lo lq k tn own oth hsd hO hQ mm fr hmk hmm (by omega)) (cwV 1 hts gX5_move_X5_canMoveFrom rfl rfl rfl (by decide +kernel) ⟨Nat.le_of_ble_eq_true rfl, Nat.le_of_ble_eq_true rfl⟩) (zPc_V (ci := 2) (q0 := 0) zB_T hP hK rfl rfl [0, 1, 2] rfl (fun _ _ _ => trivial)) rfl rfl hl.1 rfl (lv_room (Nat.le_of_ble_eq_true rfl)) dX5_move_9 ⟨Nat.le_of_ble_eq_true rfl, Nat.le_of_ble_eq_true rfl⟩) hP hS (fun H locs hP hS => ?_)
  refine lv_if_ne (tgt := 23) hx hb dX5_move_12 (by decide) (fun c_12 => ?_) (fun c_12 => ?_)
  · skip
    have c_12 := bI_1.mp c_12
    have hS : va_S (zA [ax, ao, aq]) s.heap H locs := zS_w hS
    have hkn : mk = nI mm := zmk_eq hmk (zcm_spec c_12).1
    obtain ⟨hm0, hd0, hto⟩ := zcm_spec c_12
    have hl1 := hO.lt
    have hl2 := hQ.lt
    have hO2 : zok k (zsh own fr (fr + mm)) := zok_sh hO hd0 (by omega) (by omega) (by omega)
    have hl3 := hO2.lt
    refine lv_iload_n hx hb dX5_move_23 rfl (lv_at hl 1 rfl) ?_
    refine lv_aload_n hx hb dX5_move_24 rfl (lv_at hl 0 rfl) ?_
    refine va_get (D := (dC, dI)) (ci := 2) (v := .int mk) (C := RX5) (T := TX5) (N := 9) hx hb hts hinX5 hown hK hP 0 rfl rfl 6 (by decide) (hts (.fieldLink RX5 46 "RoyalUrTable" "marksTold" "I") (List.mem_of_getElem? (i := 3) rfl)) (fun _ h9 => h9) rfl dX5_move_25 ?_
    refine zz_i (y := nI mm) hkn ?_
    refine lv_iadd hx hb dX5_move_28 ?_
    refine zz_i (y := nI (fr + mm)) (nI_add fr mm) ?_
    refine lv_istore_n (lv' := [(2, .int (nI (fr + mm))), (0, .ref ax), (1, .int (nI fr))]) hx hb dX5_move_29 rfl hl (by decide) rfl (fun ls hl => ?_)
    refine lv_aload_n hx hb dX5_move_30 rfl (lv_at hl 1 rfl) ?_
    refine lv_aload_n hx hb dX5_move_31 rfl (lv_at hl 1 rfl) ?_
    refine va_get (D := (dC, dI)) (ci := 2) (v := .int (nI tn)) (C := RX5) (T := TX5) (N := 9) hx hb hts hinX5 hown hK hP 0 rfl rfl 5 (by decide) (hts (.fieldLink RX5 59 "RoyalUrTable" "turn" "I") (List.mem_of_getElem? (i := 4) rfl)) (fun _ h9 => h9) rfl dX5_move_32 ?_
    refine zro_r (va_runV (As := [.int (nI tn)]) (rest := []) ⟨hx, hb, hml, hown, hts⟩ (c_X5_sideOf l dC dI cyI cyJ ax a0 a1 ae aw (nI k) (nI tn) mk wn cnt tn (by omega)) (cwV 1 hts gX5_move_X5_sideOf rfl rfl rfl (by decide +kernel) ⟨Nat.le_of_ble_eq_true rfl, Nat.le_of_ble_eq_true rfl⟩) (zPc_V (ci := 2) (q0 := 0) zB_T hP hK rfl rfl [0] rfl (fun _ _ _ => trivial)) rfl rfl hl.1 rfl (lv_room (Nat.le_of_ble_eq_true rfl)) dX5_move_35 ⟨Nat.le_of_ble_eq_true rfl, Nat.le_of_ble_eq_true rfl⟩) hP hS (fun H locs hP hS => ?_)
    refine zz_r (y := ao) (zSd_o hsd) ?_
    refine lv_astore_n (lv' := [(3, .ref ao), (2, .int (nI (fr + mm))), (0, .ref ax), (1, .int (nI fr))]) hx hb dX5_move_38 rfl hl (by decide) rfl (fun ls hl => ?_)
    refine lv_aload_n hx hb dX5_move_39 rfl (lv_at hl 2 rfl) ?_
    refine lv_iconst (v := 1) hx hb dX5_move_40 (by decide) ?_
    refine lv_aload_n hx hb dX5_move_41 rfl (lv_at hl 2 rfl) ?_
    refine va_get (D := (dC, dI)) (ci := 2) (v := .int (nI tn)) (C := RX5) (T := TX5) (N := 9) hx hb hts hinX5 hown hK hP 0 rfl rfl 5 (by decide) (hts (.fieldLink RX5 59 "RoyalUrTable" "turn" "I") (List.mem_of_getElem? (i := 4) rfl)) (fun _ h9 => h9) rfl dX5_move_42 ?_
    refine lv_isub hx hb dX5_move_45 ?_
    refine zz_i (y := nI (1 - tn)) (pk_sub (a := 1) (b := tn) (by omega)) ?_
    refine zro_r (va_runV (As := [.int (nI (1 - tn))]) (rest := []) ⟨hx, hb, hml, hown, hts⟩ (c_X5_sideOf l dC dI cyI cyJ ax a0 a1 ae aw (nI k) (nI tn) mk wn cnt (1 - tn) (by omega)) (cwV 1 hts gX5_move_X5_sideOf rfl rfl rfl (by decide +kernel) ⟨Nat.le_of_ble_eq_true rfl, Nat.le_of_ble_eq_true rfl⟩) (zPc_V (ci := 2) (q0 := 0) zB_T hP hK rfl rfl [0] rfl (fun _ _ _ => trivial)) rfl rfl hl.1 rfl (lv_room (Nat.le_of_ble_eq_true rfl)) dX5_move_46 ⟨Nat.le_of_ble_eq_true rfl, Nat.le_of_ble_eq_true rfl⟩) hP hS (fun H locs hP hS => ?_)
    refine zz_r (y := aq) (zSd_q hsd) ?_
    refine lv_astore (lv' := [(4, .ref aq), (3, .ref ao), (2, .int (nI (fr + mm))), (0, .ref ax), (1, .int (nI fr))]) hx hb dX5_move_49 hl (by decide) rfl (fun ls hl => ?_)
    refine lv_aload_n hx hb dX5_move_51 rfl (lv_at hl 1 rfl) ?_
    refine lv_aload_n hx hb dX5_move_52 rfl (lv_at hl 1 rfl) ?_
    refine va_get (D := (dC, dI)) (ci := 1) (v := .long (lN own)) (C := RX3) (T := TX3) (N := 2) hx hb hts hinX3 hown hK hP 1 rfl rfl 0 (by decide) (hts (.fieldLink RX5 70 "RoyalUrTable$Side" "layout" "J") (List.mem_of_getElem? (i := 5) rfl)) (fun _ h9 => h9) rfl dX5_move_53 ?_
    refine lv_iload_n hx hb dX5_move_56 rfl (lv_at hl 4 rfl) ?_
    refine lv_iload_n hx hb dX5_move_57 rfl (lv_at hl 2 rfl) ?_
    refine zro_l (va_runS (As := [.long (lN own), .int (nI fr), .int (nI (fr + mm))]) (rest := [.ref ao]) ⟨hx, hb, hml, hown, hts⟩ (c_X2_shifted l own (by omega) fr (fr + mm) (by omega) (by omega) (dg_le hd0)) (va_cwS 3 hts gX5_move_X2_shifted rfl rfl rfl (by decide +kernel) ⟨Nat.le_of_ble_eq_true rfl, Nat.le_of_ble_eq_true rfl⟩) zPu rfl rfl hl.1 rfl (lv_room (Nat.le_of_ble_eq_true rfl)) dX5_move_58 ⟨Nat.le_of_ble_eq_true rfl, Nat.le_of_ble_eq_true rfl⟩) hP hS (fun H locs hP hS => ?_)
    refine va_put (D := (dC, dI)) (ci := 1) (v := .long (lN (zsh own fr (fr + mm)))) (ty := .long) (C := RX3) (T := TX3) (N := 2) hx hb hts hinX3 tyX3 tyX3_ok nmX3 hown hK hP (hDD.va rfl) hS 1 rfl rfl 0 (by decide) (hts (.fieldLink RX5 70 "RoyalUrTable$Side" "layout" "J") (List.mem_of_getElem? (i := 5) rfl)) (fun _ h9 => h9) rfl (by decide +kernel) rfl rfl (Nat.le_of_ble_eq_true rfl) dX5_move_61 (fun H locs hP hD9 hS => ?_)
    have hP : va_P (dC, dI) vwCl [(ax, .inr (2, [.ref a0, .ref a1, .ref ae, .ref aw, .int (nI k), .int (nI tn), .int mk, .int wn, .int cnt])), (ao, .inr (1, [.long (lN (zsh own fr (fr + mm))), .int lo])), (aq, .inr (1, [.long (lN oth), .int lq]))] H := hP
    refine lv_aload hx hb dX5_move_64 (lv_at hl 0 rfl) ?_
    refine va_get (D := (dC, dI)) (ci := 1) (v := .long (lN oth)) (C := RX3) (T := TX3) (N := 2) hx hb hts hinX3 hown hK hP 2 rfl rfl 0 (by decide) (hts (.fieldLink RX5 70 "RoyalUrTable$Side" "layout" "J") (List.mem_of_getElem? (i := 5) rfl)) (fun _ h9 => h9) rfl dX5_move_66 ?_
    refine lv_iload_n hx hb dX5_move_69 rfl (lv_at hl 2 rfl) ?_
    refine zro_i (va_runS (As := [.long (lN oth), .int (nI (fr + mm))]) (rest := []) ⟨hx, hb, hml, hown, hts⟩ (c_X2_canBeTaken l oth (by omega) (fr + mm) (by omega)) (va_cwS 2 hts gX5_move_X2_canBeTaken rfl rfl rfl (by decide +kernel) ⟨Nat.le_of_ble_eq_true rfl, Nat.le_of_ble_eq_true rfl⟩) zPu rfl rfl hl.1 rfl (lv_room (Nat.le_of_ble_eq_true rfl)) dX5_move_70 ⟨Nat.le_of_ble_eq_true rfl, Nat.le_of_ble_eq_true rfl⟩) hP hS (fun H locs hP hS => ?_)
    refine lv_if_eq (tgt := 102) hx hb dX5_move_73 (by decide) (fun c_73 => ?_) (fun c_73 => ?_)
    · skip
      have c_73 := bI_0.mp c_73
      refine lv_aload_n hx hb dX5_move_102 rfl (lv_at hl 1 rfl) ?_
      refine va_get (D := (dC, dI)) (ci := 1) (v := .long (lN (zsh own fr (fr + mm)))) (C := RX3) (T := TX3) (N := 2) hx hb hts hinX3 hown hK hP 1 rfl rfl 0 (by decide) (hts (.fieldLink RX5 70 "RoyalUrTable$Side" "layout" "J") (List.mem_of_getElem? (i := 5) rfl)) (fun _ h9 => h9) rfl dX5_move_103 ?_
      refine zro_i (va_runS (As := [.long (lN (zsh own fr (fr + mm)))]) (rest := []) ⟨hx, hb, hml, hown, hts⟩ (c_X2_isAllHome l (zsh own fr (fr + mm)) (by omega)) (va_cwS 1 hts gX5_move_X2_isAllHome rfl rfl rfl (by decide +kernel) ⟨Nat.le_of_ble_eq_true rfl, Nat.le_of_ble_eq_true rfl⟩) zPu rfl rfl hl.1 rfl (lv_room (Nat.le_of_ble_eq_true rfl)) dX5_move_106 ⟨Nat.le_of_ble_eq_true rfl, Nat.le_of_ble_eq_true rfl⟩) hP hS (fun H locs hP hS => ?_)
      refine lv_if_eq (tgt := 120) hx hb dX5_move_109 (by decide) (fun c_109 => ?_) (fun c_109 => ?_)
      · skip
        have c_109 := bI_0.mp c_109
        refine lv_iload_n hx hb dX5_move_120 rfl (lv_at hl 2 rfl) ?_
        refine zro_i (va_runS (As := [.int (nI (fr + mm))]) (rest := []) ⟨hx, hb, hml, hown, hts⟩ (c_X4_isRosette l (fr + mm) (by omega)) (va_cwS 1 hts gX5_move_X4_isRosette rfl rfl rfl (by decide +kernel) ⟨Nat.le_of_ble_eq_true rfl, Nat.le_of_ble_eq_true rfl⟩) zPu rfl rfl hl.1 rfl (lv_room (Nat.le_of_ble_eq_true rfl)) dX5_move_121 ⟨Nat.le_of_ble_eq_true rfl, Nat.le_of_ble_eq_true rfl⟩) hP hS (fun H locs hP hS => ?_)
        refine lv_if_ne (tgt := 137) hx hb dX5_move_124 (by decide) (fun c_124 => ?_) (fun c_124 => ?_)
        · skip
          have c_124 := bI_1.mp c_124
          refine lv_aload_n hx hb dX5_move_137 rfl (lv_at hl 3 rfl) ?_
          refine lv_iconst (v := -1) hx hb dX5_move_138 (by decide) ?_
          refine va_put (D := (dC, dI)) (ci := 2) (v := .int (-1)) (ty := .int) (C := RX5) (T := TX5) (N := 9) hx hb hts hinX5 tyX5 tyX5_ok nmX5 hown hK hP (hDD.va rfl) hS 0 rfl rfl 6 (by decide) (hts (.fieldLink RX5 46 "RoyalUrTable" "marksTold" "I") (List.mem_of_getElem? (i := 3) rfl)) (fun _ h9 => h9) rfl (by decide +kernel) rfl rfl (Nat.le_of_ble_eq_true rfl) dX5_move_139 (fun H locs hP hD9 hS => ?_)
          have hP : va_P (dC, dI) vwCl [(ax, .inr (2, [.ref a0, .ref a1, .ref ae, .ref aw, .int (nI k), .int (nI tn), .int (-1), .int wn, .int cnt])), (ao, .inr (1, [.long (lN (zsh own fr (fr + mm))), .int lo])), (aq, .inr (1, [.long (lN oth), .int lq]))] H := hP
          refine lv_iload_n hx hb dX5_move_142 rfl (lv_at hl 2 rfl) ?_
          refine vx_ret (mc := 2) (ms := 12) ?_
          refine W.widen (k := 2) (n := 12) (Nat.le_of_ble_eq_true rfl) (Nat.le_of_ble_eq_true rfl) ?_
          exact W.iret (v := nI (fr + mm)) hx hb hr (fun t ht hW => ⟨⟨_, (fr, nI tn, wn, oth, lq), rfl, ⟨hfr, rfl, c_12, rfl, (if_pos c_124).symm, (if_neg (by rw [c_109]; decide)).symm, (if_neg (by rw [c_73]; decide)).symm, (if_neg (by rw [c_73]; decide)).symm⟩, zh ht hP⟩, hS.F ht⟩) hS.2.2 dX5_move_143
        · skip
          have c_124 := bI_0.mp c_124
          refine lv_aload_n hx hb dX5_move_127 rfl (lv_at hl 3 rfl) ?_
          refine lv_iconst (v := 1) hx hb dX5_move_128 (by decide) ?_
          refine lv_aload_n hx hb dX5_move_129 rfl (lv_at hl 3 rfl) ?_
          refine va_get (D := (dC, dI)) (ci := 2) (v := .int (nI tn)) (C := RX5) (T := TX5) (N := 9) hx hb hts hinX5 hown hK hP 0 rfl rfl 5 (by decide) (hts (.fieldLink RX5 59 "RoyalUrTable" "turn" "I") (List.mem_of_getElem? (i := 4) rfl)) (fun _ h9 => h9) rfl dX5_move_130 ?_
          refine lv_isub hx hb dX5_move_133 ?_
          refine zz_i (y := nI (1 - tn)) (pk_sub (a := 1) (b := tn) (by omega)) ?_
          refine va_put (D := (dC, dI)) (ci := 2) (v := .int (nI (1 - tn))) (ty := .int) (C := RX5) (T := TX5) (N := 9) hx hb hts hinX5 tyX5 tyX5_ok nmX5 hown hK hP (hDD.va rfl) hS 0 rfl rfl 5 (by decide) (hts (.fieldLink RX5 59 "RoyalUrTable" "turn" "I") (List.mem_of_getElem? (i := 4) rfl)) (fun _ h9 => h9) rfl (by decide +kernel) rfl rfl (Nat.le_of_ble_eq_true rfl) dX5_move_134 (fun H locs hP hD9 hS => ?_)
          have hP : va_P (dC, dI) vwCl [(ax, .inr (2, [.ref a0, .ref a1, .ref ae, .ref aw, .int (nI k), .int (nI (1 - tn)), .int mk, .int wn, .int cnt])), (ao, .inr (1, [.long (lN (zsh own fr (fr + mm))), .int lo])), (aq, .inr (1, [.long (lN oth), .int lq]))] H := hP
          refine lv_aload_n hx hb dX5_move_137 rfl (lv_at hl 3 rfl) ?_
          refine lv_iconst (v := -1) hx hb dX5_move_138 (by decide) ?_
          refine va_put (D := (dC, dI)) (ci := 2) (v := .int (-1)) (ty := .int) (C := RX5) (T := TX5) (N := 9) hx hb hts hinX5 tyX5 tyX5_ok nmX5 hown hK hP (hDD.va rfl) hS 0 rfl rfl 6 (by decide) (hts (.fieldLink RX5 46 "RoyalUrTable" "marksTold" "I") (List.mem_of_getElem? (i := 3) rfl)) (fun _ h9 => h9) rfl (by decide +kernel) rfl rfl (Nat.le_of_ble_eq_true rfl) dX5_move_139 (fun H locs hP hD9 hS => ?_)
          have hP : va_P (dC, dI) vwCl [(ax, .inr (2, [.ref a0, .ref a1, .ref ae, .ref aw, .int (nI k), .int (nI (1 - tn)), .int (-1), .int wn, .int cnt])), (ao, .inr (1, [.long (lN (zsh own fr (fr + mm))), .int lo])), (aq, .inr (1, [.long (lN oth), .int lq]))] H := hP
          refine lv_iload_n hx hb dX5_move_142 rfl (lv_at hl 2 rfl) ?_
          refine vx_ret (mc := 2) (ms := 12) ?_
          refine W.widen (k := 2) (n := 12) (Nat.le_of_ble_eq_true rfl) (Nat.le_of_ble_eq_true rfl) ?_
          exact W.iret (v := nI (fr + mm)) hx hb hr (fun t ht hW => ⟨⟨_, (fr, nI (1 - tn), wn, oth, lq), rfl, ⟨hfr, rfl, c_12, rfl, (if_neg (by rw [c_124]; decide)).symm, (if_neg (by rw [c_109]; decide)).symm, (if_neg (by rw [c_73]; decide)).symm, (if_neg (by rw [c_73]; decide)).symm⟩, zh ht hP⟩, hS.F ht⟩) hS.2.2 dX5_move_143
      · skip
        have c_109 := bI_1.mp c_109
        refine lv_aload_n hx hb dX5_move_112 rfl (lv_at hl 3 rfl) ?_
        refine lv_aload_n hx hb dX5_move_113 rfl (lv_at hl 3 rfl) ?_
        refine va_get (D := (dC, dI)) (ci := 2) (v := .int (nI tn)) (C := RX5) (T := TX5) (N := 9) hx hb hts hinX5 hown hK hP 0 rfl rfl 5 (by decide) (hts (.fieldLink RX5 59 "RoyalUrTable" "turn" "I") (List.mem_of_getElem? (i := 4) rfl)) (fun _ h9 => h9) rfl dX5_move_114 ?_
        refine va_put (D := (dC, dI)) (ci := 2) (v := .int (nI tn)) (ty := .int) (C := RX5) (T := TX5) (N := 9) hx hb hts hinX5 tyX5 tyX5_ok nmX5 hown hK hP (hDD.va rfl) hS 0 rfl rfl 7 (by decide) (hts (.fieldLink RX5 42 "RoyalUrTable" "winner" "I") (List.mem_of_getElem? (i := 7) rfl)) (fun _ h9 => h9) rfl (by decide +kernel) rfl rfl (Nat.le_of_ble_eq_true rfl) dX5_move_117 (fun H locs hP hD9 hS => ?_)
        have hP : va_P (dC, dI) vwCl [(ax, .inr (2, [.ref a0, .ref a1, .ref ae, .ref aw, .int (nI k), .int (nI tn), .int mk, .int (nI tn), .int cnt])), (ao, .inr (1, [.long (lN (zsh own fr (fr + mm))), .int lo])), (aq, .inr (1, [.long (lN oth), .int lq]))] H := hP
        refine lv_iload_n hx hb dX5_move_120 rfl (lv_at hl 2 rfl) ?_
        refine zro_i (va_runS (As := [.int (nI (fr + mm))]) (rest := []) ⟨hx, hb, hml, hown, hts⟩ (c_X4_isRosette l (fr + mm) (by omega)) (va_cwS 1 hts gX5_move_X4_isRosette rfl rfl rfl (by decide +kernel) ⟨Nat.le_of_ble_eq_true rfl, Nat.le_of_ble_eq_true rfl⟩) zPu rfl rfl hl.1 rfl (lv_room (Nat.le_of_ble_eq_true rfl)) dX5_move_121 ⟨Nat.le_of_ble_eq_true rfl, Nat.le_of_ble_eq_true rfl⟩) hP hS (fun H locs hP hS => ?_)
        refine lv_if_ne (tgt := 137) hx hb dX5_move_124 (by decide) (fun c_124 => ?_) (fun c_124 => ?_)
        · skip
          have c_124 := bI_1.mp c_124
          refine lv_aload_n hx hb dX5_move_137 rfl (lv_at hl 3 rfl) ?_
          refine lv_iconst (v := -1) hx hb dX5_move_138 (by decide) ?_
          refine va_put (D := (dC, dI)) (ci := 2) (v := .int (-1)) (ty := .int) (C := RX5) (T := TX5) (N := 9) hx hb hts hinX5 tyX5 tyX5_ok nmX5 hown hK hP (hDD.va rfl) hS 0 rfl rfl 6 (by decide) (hts (.fieldLink RX5 46 "RoyalUrTable" "marksTold" "I") (List.mem_of_getElem? (i := 3) rfl)) (fun _ h9 => h9) rfl (by decide +kernel) rfl rfl (Nat.le_of_ble_eq_true rfl) dX5_move_139 (fun H locs hP hD9 hS => ?_)
          have hP : va_P (dC, dI) vwCl [(ax, .inr (2, [.ref a0, .ref a1, .ref ae, .ref aw, .int (nI k), .int (nI tn), .int (-1), .int (nI tn), .int cnt])), (ao, .inr (1, [.long (lN (zsh own fr (fr + mm))), .int lo])), (aq, .inr (1, [.long (lN oth), .int lq]))] H := hP
          refine lv_iload_n hx hb dX5_move_142 rfl (lv_at hl 2 rfl) ?_
          refine vx_ret (mc := 2) (ms := 12) ?_
          refine W.widen (k := 2) (n := 12) (Nat.le_of_ble_eq_true rfl) (Nat.le_of_ble_eq_true rfl) ?_
          exact W.iret (v := nI (fr + mm)) hx hb hr (fun t ht hW => ⟨⟨_, (fr, nI tn, nI tn, oth, lq), rfl, ⟨hfr, rfl, c_12, rfl, (if_pos c_124).symm, (if_pos c_109).symm, (if_neg (by rw [c_73]; decide)).symm, (if_neg (by rw [c_73]; decide)).symm⟩, zh ht hP⟩, hS.F ht⟩) hS.2.2 dX5_move_143
        · skip
          have c_124 := bI_0.mp c_124
          refine lv_aload_n hx hb dX5_move_127 rfl (lv_at hl 3 rfl) ?_
          refine lv_iconst (v := 1) hx hb dX5_move_128 (by decide) ?_
          refine lv_aload_n hx hb dX5_move_129 rfl (lv_at hl 3 rfl) ?_
          refine va_get (D := (dC, dI)) (ci := 2) (v := .int (nI tn)) (C := RX5) (T := TX5) (N := 9) hx hb hts hinX5 hown hK hP 0 rfl rfl 5 (by decide) (hts (.fieldLink RX5 59 "RoyalUrTable" "turn" "I") (List.mem_of_getElem? (i := 4) rfl)) (fun _ h9 => h9) rfl dX5_move_130 ?_
          refine lv_isub hx hb dX5_move_133 ?_
          refine zz_i (y := nI (1 - tn)) (pk_sub (a := 1) (b := tn) (by omega)) ?_
          refine va_put (D := (dC, dI)) (ci := 2) (v := .int (nI (1 - tn))) (ty := .int) (C := RX5) (T := TX5) (N := 9) hx hb hts hinX5 tyX5 tyX5_ok nmX5 hown hK hP (hDD.va rfl) hS 0 rfl rfl 5 (by decide) (hts (.fieldLink RX5 59 "RoyalUrTable" "turn" "I") (List.mem_of_getElem? (i := 4) rfl)) (fun _ h9 => h9) rfl (by decide +kernel) rfl rfl (Nat.le_of_ble_eq_true rfl) dX5_move_134 (fun H locs hP hD9 hS => ?_)
          have hP : va_P (dC, dI) vwCl [(ax, .inr (2, [.ref a0, .ref a1, .ref ae, .ref aw, .int (nI k), .int (nI (1 - tn)), .int mk, .int (nI tn), .int cnt])), (ao, .inr (1, [.long (lN (zsh own fr (fr + mm))), .int lo])), (aq, .inr (1, [.long (lN oth), .int lq]))] H := hP
          refine lv_aload_n hx hb dX5_move_137 rfl (lv_at hl 3 rfl) ?_
          refine lv_iconst (v := -1) hx hb dX5_move_138 (by decide) ?_
          refine va_put (D := (dC, dI)) (ci := 2) (v := .int (-1)) (ty := .int) (C := RX5) (T := TX5) (N := 9) hx hb hts hinX5 tyX5 tyX5_ok nmX5 hown hK hP (hDD.va rfl) hS 0 rfl rfl 6 (by decide) (hts (.fieldLink RX5 46 "RoyalUrTable" "marksTold" "I") (List.mem_of_getElem? (i := 3) rfl)) (fun _ h9 => h9) rfl (by decide +kernel) rfl rfl (Nat.le_of_ble_eq_true rfl) dX5_move_139 (fun H locs hP hD9 hS => ?_)
          have hP : va_P (dC, dI) vwCl [(ax, .inr (2, [.ref a0, .ref a1, .ref ae, .ref aw, .int (nI k), .int (nI (1 - tn)), .int (-1), .int (nI tn), .int cnt])), (ao, .inr (1, [.long (lN (zsh own fr (fr + mm))), .int lo])), (aq, .inr (1, [.long (lN oth), .int lq]))] H := hP
          refine lv_iload_n hx hb dX5_move_142 rfl (lv_at hl 2 rfl) ?_
          refine vx_ret (mc := 2) (ms := 12) ?_
          refine W.widen (k := 2) (n := 12) (Nat.le_of_ble_eq_true rfl) (Nat.le_of_ble_eq_true rfl) ?_
          exact W.iret (v := nI (fr + mm)) hx hb hr (fun t ht hW => ⟨⟨_, (fr, nI (1 - tn), nI tn, oth, lq), rfl, ⟨hfr, rfl, c_12, rfl, (if_neg (by rw [c_124]; decide)).symm, (if_pos c_109).symm, (if_neg (by rw [c_73]; decide)).symm, (if_neg (by rw [c_73]; decide)).symm⟩, zh ht hP⟩, hS.F ht⟩) hS.2.2 dX5_move_143
    · skip
      have c_73 := bI_1.mp c_73
      obtain ⟨ht5, ht12, htd⟩ := ztk_spec c_73
      refine lv_aload hx hb dX5_move_76 (lv_at hl 0 rfl) ?_
      refine lv_aload hx hb dX5_move_78 (lv_at hl 0 rfl) ?_
      refine va_get (D := (dC, dI)) (ci := 1) (v := .long (lN oth)) (C := RX3) (T := TX3) (N := 2) hx hb hts hinX3 hown hK hP 2 rfl rfl 0 (by decide) (hts (.fieldLink RX5 70 "RoyalUrTable$Side" "layout" "J") (List.mem_of_getElem? (i := 5) rfl)) (fun _ h9 => h9) rfl dX5_move_80 ?_
      refine lv_iload_n hx hb dX5_move_83 rfl (lv_at hl 2 rfl) ?_
      refine lv_iconst (v := 0) hx hb dX5_move_84 (by decide) ?_
      refine zro_l (va_runS (As := [.long (lN oth), .int (nI (fr + mm)), .int 0]) (rest := [.ref aq]) ⟨hx, hb, hml, hown, hts⟩ (c_X2_shifted l oth (by omega) (fr + mm) 0 (by omega) (by omega) (dg_le htd)) (va_cwS 3 hts gX5_move_X2_shifted rfl rfl rfl (by decide +kernel) ⟨Nat.le_of_ble_eq_true rfl, Nat.le_of_ble_eq_true rfl⟩) zPu rfl rfl hl.1 rfl (lv_room (Nat.le_of_ble_eq_true rfl)) dX5_move_85 ⟨Nat.le_of_ble_eq_true rfl, Nat.le_of_ble_eq_true rfl⟩) hP hS (fun H locs hP hS => ?_)
      refine va_put (D := (dC, dI)) (ci := 1) (v := .long (lN (zsh oth (fr + mm) 0))) (ty := .long) (C := RX3) (T := TX3) (N := 2) hx hb hts hinX3 tyX3 tyX3_ok nmX3 hown hK hP (hDD.va rfl) hS 2 rfl rfl 0 (by decide) (hts (.fieldLink RX5 70 "RoyalUrTable$Side" "layout" "J") (List.mem_of_getElem? (i := 5) rfl)) (fun _ h9 => h9) rfl (by decide +kernel) rfl rfl (Nat.le_of_ble_eq_true rfl) dX5_move_88 (fun H locs hP hD9 hS => ?_)
      have hP : va_P (dC, dI) vwCl [(ax, .inr (2, [.ref a0, .ref a1, .ref ae, .ref aw, .int (nI k), .int (nI tn), .int mk, .int wn, .int cnt])), (ao, .inr (1, [.long (lN (zsh own fr (fr + mm))), .int lo])), (aq, .inr (1, [.long (lN (zsh oth (fr + mm) 0)), .int lq]))] H := hP
      refine lv_aload hx hb dX5_move_91 (lv_at hl 0 rfl) ?_
      refine lv_dup hx hb dX5_move_93 rfl ?_
      refine va_get (D := (dC, dI)) (ci := 1) (v := .int lq) (C := RX3) (T := TX3) (N := 2) hx hb hts hinX3 hown hK hP 2 rfl rfl 1 (by decide) (hts (.fieldLink RX5 84 "RoyalUrTable$Side" "lost" "I") (List.mem_of_getElem? (i := 6) rfl)) (fun _ h9 => h9) rfl dX5_move_94 ?_
      refine lv_iconst (v := 1) hx hb dX5_move_97 (by decide) ?_
      refine lv_iadd hx hb dX5_move_98 ?_
      refine va_put (D := (dC, dI)) (ci := 1) (v := .int (lq + 1)) (ty := .int) (C := RX3) (T := TX3) (N := 2) hx hb hts hinX3 tyX3 tyX3_ok nmX3 hown hK hP (hDD.va rfl) hS 2 rfl rfl 1 (by decide) (hts (.fieldLink RX5 84 "RoyalUrTable$Side" "lost" "I") (List.mem_of_getElem? (i := 6) rfl)) (fun _ h9 => h9) rfl (by decide +kernel) rfl rfl (Nat.le_of_ble_eq_true rfl) dX5_move_99 (fun H locs hP hD9 hS => ?_)
      have hP : va_P (dC, dI) vwCl [(ax, .inr (2, [.ref a0, .ref a1, .ref ae, .ref aw, .int (nI k), .int (nI tn), .int mk, .int wn, .int cnt])), (ao, .inr (1, [.long (lN (zsh own fr (fr + mm))), .int lo])), (aq, .inr (1, [.long (lN (zsh oth (fr + mm) 0)), .int (lq + 1)]))] H := hP
      refine lv_aload_n hx hb dX5_move_102 rfl (lv_at hl 1 rfl) ?_
      refine va_get (D := (dC, dI)) (ci := 1) (v := .long (lN (zsh own fr (fr + mm)))) (C := RX3) (T := TX3) (N := 2) hx hb hts hinX3 hown hK hP 1 rfl rfl 0 (by decide) (hts (.fieldLink RX5 70 "RoyalUrTable$Side" "layout" "J") (List.mem_of_getElem? (i := 5) rfl)) (fun _ h9 => h9) rfl dX5_move_103 ?_
      refine zro_i (va_runS (As := [.long (lN (zsh own fr (fr + mm)))]) (rest := []) ⟨hx, hb, hml, hown, hts⟩ (c_X2_isAllHome l (zsh own fr (fr + mm)) (by omega)) (va_cwS 1 hts gX5_move_X2_isAllHome rfl rfl rfl (by decide +kernel) ⟨Nat.le_of_ble_eq_true rfl, Nat.le_of_ble_eq_true rfl⟩) zPu rfl rfl hl.1 rfl (lv_room (Nat.le_of_ble_eq_true rfl)) dX5_move_106 ⟨Nat.le_of_ble_eq_true rfl, Nat.le_of_ble_eq_true rfl⟩) hP hS (fun H locs hP hS => ?_)
      refine lv_if_eq (tgt := 120) hx hb dX5_move_109 (by decide) (fun c_109 => ?_) (fun c_109 => ?_)
      · skip
        have c_109 := bI_0.mp c_109
        refine lv_iload_n hx hb dX5_move_120 rfl (lv_at hl 2 rfl) ?_
        refine zro_i (va_runS (As := [.int (nI (fr + mm))]) (rest := []) ⟨hx, hb, hml, hown, hts⟩ (c_X4_isRosette l (fr + mm) (by omega)) (va_cwS 1 hts gX5_move_X4_isRosette rfl rfl rfl (by decide +kernel) ⟨Nat.le_of_ble_eq_true rfl, Nat.le_of_ble_eq_true rfl⟩) zPu rfl rfl hl.1 rfl (lv_room (Nat.le_of_ble_eq_true rfl)) dX5_move_121 ⟨Nat.le_of_ble_eq_true rfl, Nat.le_of_ble_eq_true rfl⟩) hP hS (fun H locs hP hS => ?_)
        refine lv_if_ne (tgt := 137) hx hb dX5_move_124 (by decide) (fun c_124 => ?_) (fun c_124 => ?_)
        · skip
          have c_124 := bI_1.mp c_124
          refine lv_aload_n hx hb dX5_move_137 rfl (lv_at hl 3 rfl) ?_
          refine lv_iconst (v := -1) hx hb dX5_move_138 (by decide) ?_
          refine va_put (D := (dC, dI)) (ci := 2) (v := .int (-1)) (ty := .int) (C := RX5) (T := TX5) (N := 9) hx hb hts hinX5 tyX5 tyX5_ok nmX5 hown hK hP (hDD.va rfl) hS 0 rfl rfl 6 (by decide) (hts (.fieldLink RX5 46 "RoyalUrTable" "marksTold" "I") (List.mem_of_getElem? (i := 3) rfl)) (fun _ h9 => h9) rfl (by decide +kernel) rfl rfl (Nat.le_of_ble_eq_true rfl) dX5_move_139 (fun H locs hP hD9 hS => ?_)
          have hP : va_P (dC, dI) vwCl [(ax, .inr (2, [.ref a0, .ref a1, .ref ae, .ref aw, .int (nI k), .int (nI tn), .int (-1), .int wn, .int cnt])), (ao, .inr (1, [.long (lN (zsh own fr (fr + mm))), .int lo])), (aq, .inr (1, [.long (lN (zsh oth (fr + mm) 0)), .int (lq + 1)]))] H := hP
          refine lv_iload_n hx hb dX5_move_142 rfl (lv_at hl 2 rfl) ?_
          refine vx_ret (mc := 2) (ms := 12) ?_
          refine W.widen (k := 2) (n := 12) (Nat.le_of_ble_eq_true rfl) (Nat.le_of_ble_eq_true rfl) ?_
          exact W.iret (v := nI (fr + mm)) hx hb hr (fun t ht hW => ⟨⟨_, (fr, nI tn, wn, zsh oth (fr + mm) 0, lq + 1), rfl, ⟨hfr, rfl, c_12, rfl, (if_pos c_124).symm, (if_neg (by rw [c_109]; decide)).symm, (if_pos c_73).symm, (if_pos c_73).symm⟩, zh ht hP⟩, hS.F ht⟩) hS.2.2 dX5_move_143
        · skip
          have c_124 := bI_0.mp c_124
          refine lv_aload_n hx hb dX5_move_127 rfl (lv_at hl 3 rfl) ?_
          refine lv_iconst (v := 1) hx hb dX5_move_128 (by decide) ?_
          refine lv_aload_n hx hb dX5_move_129 rfl (lv_at hl 3 rfl) ?_
          refine va_get (D := (dC, dI)) (ci := 2) (v := .int (nI tn)) (C := RX5) (T := TX5) (N := 9) hx hb hts hinX5 hown hK hP 0 rfl rfl 5 (by decide) (hts (.fieldLink RX5 59 "RoyalUrTable" "turn" "I") (List.mem_of_getElem? (i := 4) rfl)) (fun _ h9 => h9) rfl dX5_move_130 ?_
          refine lv_isub hx hb dX5_move_133 ?_
          refine zz_i (y := nI (1 - tn)) (pk_sub (a := 1) (b := tn) (by omega)) ?_
          refine va_put (D := (dC, dI)) (ci := 2) (v := .int (nI (1 - tn))) (ty := .int) (C := RX5) (T := TX5) (N := 9) hx hb hts hinX5 tyX5 tyX5_ok nmX5 hown hK hP (hDD.va rfl) hS 0 rfl rfl 5 (by decide) (hts (.fieldLink RX5 59 "RoyalUrTable" "turn" "I") (List.mem_of_getElem? (i := 4) rfl)) (fun _ h9 => h9) rfl (by decide +kernel) rfl rfl (Nat.le_of_ble_eq_true rfl) dX5_move_134 (fun H locs hP hD9 hS => ?_)
          have hP : va_P (dC, dI) vwCl [(ax, .inr (2, [.ref a0, .ref a1, .ref ae, .ref aw, .int (nI k), .int (nI (1 - tn)), .int mk, .int wn, .int cnt])), (ao, .inr (1, [.long (lN (zsh own fr (fr + mm))), .int lo])), (aq, .inr (1, [.long (lN (zsh oth (fr + mm) 0)), .int (lq + 1)]))] H := hP
          refine lv_aload_n hx hb dX5_move_137 rfl (lv_at hl 3 rfl) ?_
          refine lv_iconst (v := -1) hx hb dX5_move_138 (by decide) ?_
          refine va_put (D := (dC, dI)) (ci := 2) (v := .int (-1)) (ty := .int) (C := RX5) (T := TX5) (N := 9) hx hb hts hinX5 tyX5 tyX5_ok nmX5 hown hK hP (hDD.va rfl) hS 0 rfl rfl 6 (by decide) (hts (.fieldLink RX5 46 "RoyalUrTable" "marksTold" "I") (List.mem_of_getElem? (i := 3) rfl)) (fun _ h9 => h9) rfl (by decide +kernel) rfl rfl (Nat.le_of_ble_eq_true rfl) dX5_move_139 (fun H locs hP hD9 hS => ?_)
          have hP : va_P (dC, dI) vwCl [(ax, .inr (2, [.ref a0, .ref a1, .ref ae, .ref aw, .int (nI k), .int (nI (1 - tn)), .int (-1), .int wn, .int cnt])), (ao, .inr (1, [.long (lN (zsh own fr (fr + mm))), .int lo])), (aq, .inr (1, [.long (lN (zsh oth (fr + mm) 0)), .int (lq + 1)]))] H := hP
          refine lv_iload_n hx hb dX5_move_142 rfl (lv_at hl 2 rfl) ?_
          refine vx_ret (mc := 2) (ms := 12) ?_
          refine W.widen (k := 2) (n := 12) (Nat.le_of_ble_eq_true rfl) (Nat.le_of_ble_eq_true rfl) ?_
          exact W.iret (v := nI (fr + mm)) hx hb hr (fun t ht hW => ⟨⟨_, (fr, nI (1 - tn), wn, zsh oth (fr + mm) 0, lq + 1), rfl, ⟨hfr, rfl, c_12, rfl, (if_neg (by rw [c_124]; decide)).symm, (if_neg (by rw [c_109]; decide)).symm, (if_pos c_73).symm, (if_pos c_73).symm⟩, zh ht hP⟩, hS.F ht⟩) hS.2.2 dX5_move_143
      · skip
        have c_109 := bI_1.mp c_109
        refine lv_aload_n hx hb dX5_move_112 rfl (lv_at hl 3 rfl) ?_
        refine lv_aload_n hx hb dX5_move_113 rfl (lv_at hl 3 rfl) ?_
        refine va_get (D := (dC, dI)) (ci := 2) (v := .int (nI tn)) (C := RX5) (T := TX5) (N := 9) hx hb hts hinX5 hown hK hP 0 rfl rfl 5 (by decide) (hts (.fieldLink RX5 59 "RoyalUrTable" "turn" "I") (List.mem_of_getElem? (i := 4) rfl)) (fun _ h9 => h9) rfl dX5_move_114 ?_
        refine va_put (D := (dC, dI)) (ci := 2) (v := .int (nI tn)) (ty := .int) (C := RX5) (T := TX5) (N := 9) hx hb hts hinX5 tyX5 tyX5_ok nmX5 hown hK hP (hDD.va rfl) hS 0 rfl rfl 7 (by decide) (hts (.fieldLink RX5 42 "RoyalUrTable" "winner" "I") (List.mem_of_getElem? (i := 7) rfl)) (fun _ h9 => h9) rfl (by decide +kernel) rfl rfl (Nat.le_of_ble_eq_true rfl) dX5_move_117 (fun H locs hP hD9 hS => ?_)
        have hP : va_P (dC, dI) vwCl [(ax, .inr (2, [.ref a0, .ref a1, .ref ae, .ref aw, .int (nI k), .int (nI tn), .int mk, .int (nI tn), .int cnt])), (ao, .inr (1, [.long (lN (zsh own fr (fr + mm))), .int lo])), (aq, .inr (1, [.long (lN (zsh oth (fr + mm) 0)), .int (lq + 1)]))] H := hP
        refine lv_iload_n hx hb dX5_move_120 rfl (lv_at hl 2 rfl) ?_
        refine zro_i (va_runS (As := [.int (nI (fr + mm))]) (rest := []) ⟨hx, hb, hml, hown, hts⟩ (c_X4_isRosette l (fr + mm) (by omega)) (va_cwS 1 hts gX5_move_X4_isRosette rfl rfl rfl (by decide +kernel) ⟨Nat.le_of_ble_eq_true rfl, Nat.le_of_ble_eq_true rfl⟩) zPu rfl rfl hl.1 rfl (lv_room (Nat.le_of_ble_eq_true rfl)) dX5_move_121 ⟨Nat.le_of_ble_eq_true rfl, Nat.le_of_ble_eq_true rfl⟩) hP hS (fun H locs hP hS => ?_)
        refine lv_if_ne (tgt := 137) hx hb dX5_move_124 (by decide) (fun c_124 => ?_) (fun c_124 => ?_)
        · skip
          have c_124 := bI_1.mp c_124
          refine lv_aload_n hx hb dX5_move_137 rfl (lv_at hl 3 rfl) ?_
          refine lv_iconst (v := -1) hx hb dX5_move_138 (by decide) ?_
          refine va_put (D := (dC, dI)) (ci := 2) (v := .int (-1)) (ty := .int) (C := RX5) (T := TX5) (N := 9) hx hb hts hinX5 tyX5 tyX5_ok nmX5 hown hK hP (hDD.va rfl) hS 0 rfl rfl 6 (by decide) (hts (.fieldLink RX5 46 "RoyalUrTable" "marksTold" "I") (List.mem_of_getElem? (i := 3) rfl)) (fun _ h9 => h9) rfl (by decide +kernel) rfl rfl (Nat.le_of_ble_eq_true rfl) dX5_move_139 (fun H locs hP hD9 hS => ?_)
          have hP : va_P (dC, dI) vwCl [(ax, .inr (2, [.ref a0, .ref a1, .ref ae, .ref aw, .int (nI k), .int (nI tn), .int (-1), .int (nI tn), .int cnt])), (ao, .inr (1, [.long (lN (zsh own fr (fr + mm))), .int lo])), (aq, .inr (1, [.long (lN (zsh oth (fr + mm) 0)), .int (lq + 1)]))] H := hP
          refine lv_iload_n hx hb dX5_move_142 rfl (lv_at hl 2 rfl) ?_
          refine vx_ret (mc := 2) (ms := 12) ?_
          refine W.widen (k := 2) (n := 12) (Nat.le_of_ble_eq_true rfl) (Nat.le_of_ble_eq_true rfl) ?_
          exact W.iret (v := nI (fr + mm)) hx hb hr (fun t ht hW => ⟨⟨_, (fr, nI tn, nI tn, zsh oth (fr + mm) 0, lq + 1), rfl, ⟨hfr, rfl, c_12, rfl, (if_pos c_124).symm, (if_pos c_109).symm, (if_pos c_73).symm, (if_pos c_73).symm⟩, zh ht hP⟩, hS.F ht⟩) hS.2.2 dX5_move_143
        · skip
          have c_124 := bI_0.mp c_124
          refine lv_aload_n hx hb dX5_move_127 rfl (lv_at hl 3 rfl) ?_
          refine lv_iconst (v := 1) hx hb dX5_move_128 (by decide) ?_
          refine lv_aload_n hx hb dX5_move_129 rfl (lv_at hl 3 rfl) ?_
          refine va_get (D := (dC, dI)) (ci := 2) (v := .int (nI tn)) (C := RX5) (T := TX5) (N := 9) hx hb hts hinX5 hown hK hP 0 rfl rfl 5 (by decide) (hts (.fieldLink RX5 59 "RoyalUrTable" "turn" "I") (List.mem_of_getElem? (i := 4) rfl)) (fun _ h9 => h9) rfl dX5_move_130 ?_
          refine lv_isub hx hb dX5_move_133 ?_
          refine zz_i (y := nI (1 - tn)) (pk_sub (a := 1) (b := tn) (by omega)) ?_
          refine va_put (D := (dC, dI)) (ci := 2) (v := .int (nI (1 - tn))) (ty := .int) (C := RX5) (T := TX5) (N := 9) hx hb hts hinX5 tyX5 tyX5_ok nmX5 hown hK hP (hDD.va rfl) hS 0 rfl rfl 5 (by decide) (hts (.fieldLink RX5 59 "RoyalUrTable" "turn" "I") (List.mem_of_getElem? (i := 4) rfl)) (fun _ h9 => h9) rfl (by decide +kernel) rfl rfl (Nat.le_of_ble_eq_true rfl) dX5_move_134 (fun H locs hP hD9 hS => ?_)
          have hP : va_P (dC, dI) vwCl [(ax, .inr (2, [.ref a0, .ref a1, .ref ae, .ref aw, .int (nI k), .int (nI (1 - tn)), .int mk, .int (nI tn), .int cnt])), (ao, .inr (1, [.long (lN (zsh own fr (fr + mm))), .int lo])), (aq, .inr (1, [.long (lN (zsh oth (fr + mm) 0)), .int (lq + 1)]))] H := hP
          refine lv_aload_n hx hb dX5_move_137 rfl (lv_at hl 3 rfl) ?_
          refine lv_iconst (v := -1) hx hb dX5_move_138 (by decide) ?_
          refine va_put (D := (dC, dI)) (ci := 2) (v := .int (-1)) (ty := .int) (C := RX5) (T := TX5) (N := 9) hx hb hts hinX5 tyX5 tyX5_ok nmX5 hown hK hP (hDD.va rfl) hS 0 rfl rfl 6 (by decide) (hts (.fieldLink RX5 46 "RoyalUrTable" "marksTold" "I") (List.mem_of_getElem? (i := 3) rfl)) (fun _ h9 => h9) rfl (by decide +kernel) rfl rfl (Nat.le_of_ble_eq_true rfl) dX5_move_139 (fun H locs hP hD9 hS => ?_)
          have hP : va_P (dC, dI) vwCl [(ax, .inr (2, [.ref a0, .ref a1, .ref ae, .ref aw, .int (nI k), .int (nI (1 - tn)), .int (-1), .int (nI tn), .int cnt])), (ao, .inr (1, [.long (lN (zsh own fr (fr + mm))), .int lo])), (aq, .inr (1, [.long (lN (zsh oth (fr + mm) 0)), .int (lq + 1)]))] H := hP
          refine lv_iload_n hx hb dX5_move_142 rfl (lv_at hl 2 rfl) ?_
          refine vx_ret (mc := 2) (ms := 12) ?_
          refine W.widen (k := 2) (n := 12) (Nat.le_of_ble_eq_true rfl) (Nat.le_of_ble_eq_true rfl) ?_
          exact W.iret (v := nI (fr + mm)) hx hb hr (fun t ht hW => ⟨⟨_, (fr, nI (1 - tn), nI tn, zsh oth (fr + mm) 0, lq + 1), rfl, ⟨hfr, rfl, c_12, rfl, (if_neg (by rw [c_124]; decide)).symm, (if_pos c_109).symm, (if_pos c_73).symm, (if_pos c_73).symm⟩, zh ht hP⟩, hS.F ht⟩) hS.2.2 dX5_move_143
  · skip
    have c_12 := bI_0.mp c_12
    exact vx_throw0 (cls := "java/lang/IllegalStateException") (names := ["java/lang/RuntimeException", "java/lang/Exception"]) (ik := 49) (ic := 51) (A := zF) hx hb hl0 hown (by decide +kernel) (by decide +kernel) (hts (.classLink RX5 49 "java/lang/IllegalStateException") (List.mem_of_getElem? (i := 1) rfl)) (hts (.initialized "java/lang/IllegalStateException") (List.mem_of_getElem? (i := 2) rfl)) (vx_hat (fun w h => hts w (List.mem_cons_of_mem _ (List.mem_append_left _ (List.mem_append_right _ h)))) (by decide +kernel) (vx_c (va_Nw.use rfl hY.2.2.1) (vx_c (va_Nw.use rfl hY.2.2.2.1) (vx_c (va_Nw.use rfl hY.2.2.2.2.1) (vx_c (va_Nw.use rfl hY.2.2.2.2.2.2) vx_n))))) (by decide +kernel) hY.1 hY.2.1 hS hl9 dX5_move_15 dX5_move_18 dX5_move_19 dX5_move_22 (fun x hx9 => (hnt x hx9).elim) (Nat.le_of_ble_eq_true rfl) (Nat.le_of_ble_eq_true rfl) (Nat.le_of_ble_eq_true rfl) (Nat.le_of_ble_eq_true rfl) hlocks (fun t hv hz hk => ⟨(), trivial, Or.inr ⟨rfl, fr, hfr, rfl, c_12⟩, zthx hS hz hk⟩) (fun z hz => (hS.2.2 z hz).elim) (Nat.le_of_ble_eq_true rfl) (Nat.le_of_ble_eq_true rfl)

set_option maxHeartbeats 4000000 in
set_option maxRecDepth 100000 in
theorem c_X5_at (l : Launch) (hl0 : l.stackTraces = false) (dC : Nat → ClassId) (dI : Nat → Nat → Nat) (cyI cyJ : ClassId) (tb ax a0 a1 ae aw ao aq : Nat) (mk wn cnt lo lq : Int32) (k tn own oth mm : Nat) (hsd : zSd tn a0 a1 ao aq) (hO : zok k own) (hQ : zok k oth) (hmk : zmk mk mm) (hmm : mm ≤ 4) (v w9 : Int32) : vx_Met l yX5_at wsX5_at ({ frames := 7, cells := 2, slots := 12, locals := 112 }) (zPc [.ref ax, .int v, .int w9] (dC, dI) vwCl [(cyI, .int)] [(ax, .inr (2, [.ref a0, .ref a1, .ref ae, .ref aw, .int (nI k), .int (nI tn), .int mk, .int wn, .int cnt])), (ao, .inr (1, [.long (lN own), .int lo])), (aq, .inr (1, [.long (lN oth), .int lq]))] (fun U => zG tb zF U U.heap)) (va_Qi (fun (r : Int32) (_ : Unit) => ∃ sN pN : Nat, sN ≤ 1 ∧ pN ≤ 15 ∧ v = nI sN ∧ w9 = nI pN ∧ r = nI (dg (if sN = tn then own else oth) pN)) (fun _ _ => True) zF) (vx_X (fun (_ : Unit) => True) (fun (E : String) _ _ => E = zIA ∧ ¬ ((0 ≤ v ∧ v ≤ 1) ∧ (0 ≤ w9 ∧ w9 ≤ 15))) zF) 2 12 zF := by
  refine vx_ofW (cc := cX5_at) (maxL := 3) (ret := (some .int)) (by decide) rfl ?_
  intro p e s m args below meth c s₁ B hml hnt hv
  obtain ⟨rfl, hP, hK, hX⟩ := hv
  have hx := B.exec
  have hb := B.bytes
  have hr := B.returns
  have hts := atoms_spec (ws := wsX5_at) B.pre
  have hown : s.vm.findClass RX5 = some m.cls := findClass_of_methodNamed B.named
  have hlocks := B.notSynchronized
  have hinX3 : ∀ w ∈ wsX30, w ∈ wsX5_at := by decide +kernel
  have hl := lv_entry ([.ref ax, .int v, .int w9]) (n := 3) (Nat.le_of_ble_eq_true rfl)
  rw [lg_entry_eq]
  generalize (lg_sl ([.ref ax, .int v, .int w9]) ++ List.replicate (3 - (lg_sl ([.ref ax, .int v, .int w9])).length) Slot.unset).toArray = ls at hl ⊢
  have hl : lv_has ls 3 [(0, .ref ax), (1, .int v), (2, .int w9)] := hl
  have hS : va_S zF s.heap s.heap [] := va_S.rf
  have hl9 := hl.1.trans hml.symm
  have hY : zY zF s s.heap := (hX.2).narrow zF_A
  have htn := zSd_le hsd
  have hl1 := hO.lt
  have hl2 := hQ.lt
  refine lv_iload_n hx hb dX5_at_0 rfl (lv_at hl 1 rfl) ?_
  refine lv_iconst (v := 0) hx hb dX5_at_1 (by decide) ?_
  refine lv_iconst (v := 1) hx hb dX5_at_2 (by decide) ?_
  refine zth_v (m1 := 1) (s1 := 6) (vx_runS (As := [.int v, .int 0, .int 1]) (rest := []) ⟨hx, hb, hml, hown, hts⟩ (c_X5_refuseOutside l hl0 v 0 1) (va_cwS 3 hts gX5_at_X5_refuseOutside rfl rfl rfl (by decide +kernel) ⟨Nat.le_of_ble_eq_true rfl, Nat.le_of_ble_eq_true rfl⟩) (zPx zB_Y (zY_at hY hS zF_A)) rfl rfl hl.1 rfl (lv_room (Nat.le_of_ble_eq_true rfl)) dX5_at_3 ⟨Nat.le_of_ble_eq_true rfl, Nat.le_of_ble_eq_true rfl⟩) hP hS (fun x hx9 => (hnt x hx9).elim) hlocks (fun hN t ht => ⟨(), trivial, ⟨rfl, fun h => hN h.1⟩, ht⟩) (Nat.le_of_ble_eq_true rfl) (Nat.le_of_ble_eq_true rfl) (fun H locs hG_3 hP hS => ?_)
  obtain ⟨sN, hsN, rfl⟩ := (zin_iff (n := 1) (by decide)).mp hG_3
  refine lv_iload_n hx hb dX5_at_6 rfl (lv_at hl 2 rfl) ?_
  refine lv_iconst (v := 0) hx hb dX5_at_7 (by decide) ?_
  refine lv_bipush (v := 15) hx hb dX5_at_8 (by decide) ?_
  refine zth_v (m1 := 1) (s1 := 6) (vx_runS (As := [.int w9, .int 0, .int 15]) (rest := []) ⟨hx, hb, hml, hown, hts⟩ (c_X5_refuseOutside l hl0 w9 0 15) (va_cwS 3 hts gX5_at_X5_refuseOutside rfl rfl rfl (by decide +kernel) ⟨Nat.le_of_ble_eq_true rfl, Nat.le_of_ble_eq_true rfl⟩) (zPx zB_Y (zY_at hY hS zF_A)) rfl rfl hl.1 rfl (lv_room (Nat.le_of_ble_eq_true rfl)) dX5_at_10 ⟨Nat.le_of_ble_eq_true rfl, Nat.le_of_ble_eq_true rfl⟩) hP hS (fun x hx9 => (hnt x hx9).elim) hlocks (fun hN t ht => ⟨(), trivial, ⟨rfl, fun h => hN h.2⟩, ht⟩) (Nat.le_of_ble_eq_true rfl) (Nat.le_of_ble_eq_true rfl) (fun H locs hG_10 hP hS => ?_)
  obtain ⟨pN, hpN, rfl⟩ := (zin_iff (n := 15) (by decide)).mp hG_10
  refine lv_aload_n hx hb dX5_at_13 rfl (lv_at hl 0 rfl) ?_
  refine lv_iload_n hx hb dX5_at_14 rfl (lv_at hl 1 rfl) ?_
  refine zro_r (va_runV (As := [.int (nI sN)]) (rest := []) ⟨hx, hb, hml, hown, hts⟩ (c_X5_sideOf l dC dI cyI cyJ ax a0 a1 ae aw (nI k) (nI tn) mk wn cnt sN (by omega)) (cwV 1 hts gX5_at_X5_sideOf rfl rfl rfl (by decide +kernel) ⟨Nat.le_of_ble_eq_true rfl, Nat.le_of_ble_eq_true rfl⟩) (zPc_V (ci := 2) (q0 := 0) zB_T hP hK rfl rfl [0] rfl (fun _ _ _ => trivial)) rfl rfl hl.1 rfl (lv_room (Nat.le_of_ble_eq_true rfl)) dX5_at_15 ⟨Nat.le_of_ble_eq_true rfl, Nat.le_of_ble_eq_true rfl⟩) hP hS (fun H locs hP hS => ?_)
  by_cases hst : sN = tn
  · skip
    refine zz_r (y := ao) (zSd_e hsd (by omega) hst) ?_
    refine va_get (D := (dC, dI)) (ci := 1) (v := .long (lN own)) (C := RX3) (T := TX3) (N := 2) hx hb hts hinX3 hown hK hP 1 rfl rfl 0 (by decide) (hts (.fieldLink RX5 70 "RoyalUrTable$Side" "layout" "J") (List.mem_of_getElem? (i := 1) rfl)) (fun _ h9 => h9) rfl dX5_at_18 ?_
    refine lv_iload_n hx hb dX5_at_21 rfl (lv_at hl 2 rfl) ?_
    refine zro_i (va_runS (As := [.long (lN own), .int (nI pN)]) (rest := []) ⟨hx, hb, hml, hown, hts⟩ (c_X2_countAt l own (by omega) pN (by omega)) (va_cwS 2 hts gX5_at_X2_countAt rfl rfl rfl (by decide +kernel) ⟨Nat.le_of_ble_eq_true rfl, Nat.le_of_ble_eq_true rfl⟩) zPu rfl rfl hl.1 rfl (lv_room (Nat.le_of_ble_eq_true rfl)) dX5_at_22 ⟨Nat.le_of_ble_eq_true rfl, Nat.le_of_ble_eq_true rfl⟩) hP hS (fun H locs hP hS => ?_)
    have hd_22 := dg_lt own pN
    refine vx_ret (mc := 2) (ms := 12) ?_
    refine W.widen (k := 2) (n := 12) (Nat.le_of_ble_eq_true rfl) (Nat.le_of_ble_eq_true rfl) ?_
    exact W.iret (v := nI (dg own pN)) hx hb hr (fun t ht hW => ⟨⟨_, (), rfl, ⟨sN, pN, hsN, hpN, rfl, rfl, (by rw [if_pos hst])⟩, trivial⟩, hS.F ht⟩) hS.2.2 dX5_at_25
  · skip
    refine zz_r (y := aq) (zSd_n hsd (by omega) hst) ?_
    refine va_get (D := (dC, dI)) (ci := 1) (v := .long (lN oth)) (C := RX3) (T := TX3) (N := 2) hx hb hts hinX3 hown hK hP 2 rfl rfl 0 (by decide) (hts (.fieldLink RX5 70 "RoyalUrTable$Side" "layout" "J") (List.mem_of_getElem? (i := 1) rfl)) (fun _ h9 => h9) rfl dX5_at_18 ?_
    refine lv_iload_n hx hb dX5_at_21 rfl (lv_at hl 2 rfl) ?_
    refine zro_i (va_runS (As := [.long (lN oth), .int (nI pN)]) (rest := []) ⟨hx, hb, hml, hown, hts⟩ (c_X2_countAt l oth (by omega) pN (by omega)) (va_cwS 2 hts gX5_at_X2_countAt rfl rfl rfl (by decide +kernel) ⟨Nat.le_of_ble_eq_true rfl, Nat.le_of_ble_eq_true rfl⟩) zPu rfl rfl hl.1 rfl (lv_room (Nat.le_of_ble_eq_true rfl)) dX5_at_22 ⟨Nat.le_of_ble_eq_true rfl, Nat.le_of_ble_eq_true rfl⟩) hP hS (fun H locs hP hS => ?_)
    have hd_22 := dg_lt oth pN
    refine vx_ret (mc := 2) (ms := 12) ?_
    refine W.widen (k := 2) (n := 12) (Nat.le_of_ble_eq_true rfl) (Nat.le_of_ble_eq_true rfl) ?_
    exact W.iret (v := nI (dg oth pN)) hx hb hr (fun t ht hW => ⟨⟨_, (), rfl, ⟨sN, pN, hsN, hpN, rfl, rfl, (by rw [if_neg hst])⟩, trivial⟩, hS.F ht⟩) hS.2.2 dX5_at_25

set_option maxHeartbeats 4000000 in
set_option maxRecDepth 100000 in
theorem c_X5_progress (l : Launch) (hl0 : l.stackTraces = false) (dC : Nat → ClassId) (dI : Nat → Nat → Nat) (cyI cyJ : ClassId) (tb ax a0 a1 ae aw ao aq : Nat) (mk wn cnt lo lq : Int32) (k tn own oth mm : Nat) (hsd : zSd tn a0 a1 ao aq) (hO : zok k own) (hQ : zok k oth) (hmk : zmk mk mm) (hmm : mm ≤ 4) (v : Int32) : vx_Met l yX5_progress wsX5_progress ({ frames := 7, cells := 1, slots := 6, locals := 112 }) (zPc [.ref ax, .int v] (dC, dI) vwCl [(cyI, .int)] [(ax, .inr (2, [.ref a0, .ref a1, .ref ae, .ref aw, .int (nI k), .int (nI tn), .int mk, .int wn, .int cnt])), (ao, .inr (1, [.long (lN own), .int lo])), (aq, .inr (1, [.long (lN oth), .int lq]))] (fun U => zG tb zF U U.heap)) (va_Qi (fun (r : Int32) (_ : Unit) => ∃ sN : Nat, sN ≤ 1 ∧ v = nI sN ∧ r = nI (psum (if sN = tn then own else oth) 16)) (fun _ _ => True) zF) (vx_X (fun (_ : Unit) => True) (fun (E : String) _ _ => E = zIA ∧ ¬ (0 ≤ v ∧ v ≤ 1)) zF) 1 6 zF := by
  refine vx_ofW (cc := cX5_progress) (maxL := 2) (ret := (some .int)) (by decide) rfl ?_
  intro p e s m args below meth c s₁ B hml hnt hv
  obtain ⟨rfl, hP, hK, hX⟩ := hv
  have hx := B.exec
  have hb := B.bytes
  have hr := B.returns
  have hts := atoms_spec (ws := wsX5_progress) B.pre
  have hown : s.vm.findClass RX5 = some m.cls := findClass_of_methodNamed B.named
  have hlocks := B.notSynchronized
  have hinX3 : ∀ w ∈ wsX30, w ∈ wsX5_progress := by decide +kernel
  have hl := lv_entry ([.ref ax, .int v]) (n := 2) (Nat.le_of_ble_eq_true rfl)
  rw [lg_entry_eq]
  generalize (lg_sl ([.ref ax, .int v]) ++ List.replicate (2 - (lg_sl ([.ref ax, .int v])).length) Slot.unset).toArray = ls at hl ⊢
  have hl : lv_has ls 2 [(0, .ref ax), (1, .int v)] := hl
  have hS : va_S zF s.heap s.heap [] := va_S.rf
  have hl9 := hl.1.trans hml.symm
  have hY : zY zF s s.heap := (hX.2).narrow zF_A
  have htn := zSd_le hsd
  have hl1 := hO.lt
  have hl2 := hQ.lt
  refine lv_iload_n hx hb dX5_progress_0 rfl (lv_at hl 1 rfl) ?_
  refine lv_iconst (v := 0) hx hb dX5_progress_1 (by decide) ?_
  refine lv_iconst (v := 1) hx hb dX5_progress_2 (by decide) ?_
  refine zth_v (m1 := 1) (s1 := 6) (vx_runS (As := [.int v, .int 0, .int 1]) (rest := []) ⟨hx, hb, hml, hown, hts⟩ (c_X5_refuseOutside l hl0 v 0 1) (va_cwS 3 hts gX5_progress_X5_refuseOutside rfl rfl rfl (by decide +kernel) ⟨Nat.le_of_ble_eq_true rfl, Nat.le_of_ble_eq_true rfl⟩) (zPx zB_Y (zY_at hY hS zF_A)) rfl rfl hl.1 rfl (lv_room (Nat.le_of_ble_eq_true rfl)) dX5_progress_3 ⟨Nat.le_of_ble_eq_true rfl, Nat.le_of_ble_eq_true rfl⟩) hP hS (fun x hx9 => (hnt x hx9).elim) hlocks (fun hN t ht => ⟨(), trivial, ⟨rfl, hN⟩, ht⟩) (Nat.le_of_ble_eq_true rfl) (Nat.le_of_ble_eq_true rfl) (fun H locs hG_3 hP hS => ?_)
  obtain ⟨sN, hsN, rfl⟩ := (zin_iff (n := 1) (by decide)).mp hG_3
  refine lv_aload_n hx hb dX5_progress_6 rfl (lv_at hl 0 rfl) ?_
  refine lv_iload_n hx hb dX5_progress_7 rfl (lv_at hl 1 rfl) ?_
  refine zro_r (va_runV (As := [.int (nI sN)]) (rest := []) ⟨hx, hb, hml, hown, hts⟩ (c_X5_sideOf l dC dI cyI cyJ ax a0 a1 ae aw (nI k) (nI tn) mk wn cnt sN (by omega)) (cwV 1 hts gX5_progress_X5_sideOf rfl rfl rfl (by decide +kernel) ⟨Nat.le_of_ble_eq_true rfl, Nat.le_of_ble_eq_true rfl⟩) (zPc_V (ci := 2) (q0 := 0) zB_T hP hK rfl rfl [0] rfl (fun _ _ _ => trivial)) rfl rfl hl.1 rfl (lv_room (Nat.le_of_ble_eq_true rfl)) dX5_progress_8 ⟨Nat.le_of_ble_eq_true rfl, Nat.le_of_ble_eq_true rfl⟩) hP hS (fun H locs hP hS => ?_)
  by_cases hst : sN = tn
  · skip
    refine zz_r (y := ao) (zSd_e hsd (by omega) hst) ?_
    refine va_get (D := (dC, dI)) (ci := 1) (v := .long (lN own)) (C := RX3) (T := TX3) (N := 2) hx hb hts hinX3 hown hK hP 1 rfl rfl 0 (by decide) (hts (.fieldLink RX5 70 "RoyalUrTable$Side" "layout" "J") (List.mem_of_getElem? (i := 1) rfl)) (fun _ h9 => h9) rfl dX5_progress_11 ?_
    refine zro_i (va_runS (As := [.long (lN own)]) (rest := []) ⟨hx, hb, hml, hown, hts⟩ (c_X2_sumOfPlaces l own (by omega)) (va_cwS 1 hts gX5_progress_X2_sumOfPlaces rfl rfl rfl (by decide +kernel) ⟨Nat.le_of_ble_eq_true rfl, Nat.le_of_ble_eq_true rfl⟩) zPu rfl rfl hl.1 rfl (lv_room (Nat.le_of_ble_eq_true rfl)) dX5_progress_14 ⟨Nat.le_of_ble_eq_true rfl, Nat.le_of_ble_eq_true rfl⟩) hP hS (fun H locs hP hS => ?_)
    refine vx_ret (mc := 1) (ms := 6) ?_
    refine W.widen (k := 1) (n := 6) (Nat.le_of_ble_eq_true rfl) (Nat.le_of_ble_eq_true rfl) ?_
    exact W.iret (v := nI (psum own 16)) hx hb hr (fun t ht hW => ⟨⟨_, (), rfl, ⟨sN, hsN, rfl, (by rw [if_pos hst])⟩, trivial⟩, hS.F ht⟩) hS.2.2 dX5_progress_17
  · skip
    refine zz_r (y := aq) (zSd_n hsd (by omega) hst) ?_
    refine va_get (D := (dC, dI)) (ci := 1) (v := .long (lN oth)) (C := RX3) (T := TX3) (N := 2) hx hb hts hinX3 hown hK hP 2 rfl rfl 0 (by decide) (hts (.fieldLink RX5 70 "RoyalUrTable$Side" "layout" "J") (List.mem_of_getElem? (i := 1) rfl)) (fun _ h9 => h9) rfl dX5_progress_11 ?_
    refine zro_i (va_runS (As := [.long (lN oth)]) (rest := []) ⟨hx, hb, hml, hown, hts⟩ (c_X2_sumOfPlaces l oth (by omega)) (va_cwS 1 hts gX5_progress_X2_sumOfPlaces rfl rfl rfl (by decide +kernel) ⟨Nat.le_of_ble_eq_true rfl, Nat.le_of_ble_eq_true rfl⟩) zPu rfl rfl hl.1 rfl (lv_room (Nat.le_of_ble_eq_true rfl)) dX5_progress_14 ⟨Nat.le_of_ble_eq_true rfl, Nat.le_of_ble_eq_true rfl⟩) hP hS (fun H locs hP hS => ?_)
    refine vx_ret (mc := 1) (ms := 6) ?_
    refine W.widen (k := 1) (n := 6) (Nat.le_of_ble_eq_true rfl) (Nat.le_of_ble_eq_true rfl) ?_
    exact W.iret (v := nI (psum oth 16)) hx hb hr (fun t ht hW => ⟨⟨_, (), rfl, ⟨sN, hsN, rfl, (by rw [if_neg hst])⟩, trivial⟩, hS.F ht⟩) hS.2.2 dX5_progress_17

set_option maxHeartbeats 4000000 in
set_option maxRecDepth 100000 in
theorem c_X5_captured (l : Launch) (hl0 : l.stackTraces = false) (dC : Nat → ClassId) (dI : Nat → Nat → Nat) (cyI cyJ : ClassId) (tb ax a0 a1 ae aw ao aq : Nat) (mk wn cnt lo lq : Int32) (k tn own oth mm : Nat) (hsd : zSd tn a0 a1 ao aq) (hO : zok k own) (hQ : zok k oth) (hmk : zmk mk mm) (hmm : mm ≤ 4) (v : Int32) : vx_Met l yX5_captured wsX5_captured ({ frames := 7, cells := 1, slots := 6, locals := 112 }) (zPc [.ref ax, .int v] (dC, dI) vwCl [(cyI, .int)] [(ax, .inr (2, [.ref a0, .ref a1, .ref ae, .ref aw, .int (nI k), .int (nI tn), .int mk, .int wn, .int cnt])), (ao, .inr (1, [.long (lN own), .int lo])), (aq, .inr (1, [.long (lN oth), .int lq]))] (fun U => zG tb zF U U.heap)) (va_Qi (fun (r : Int32) (_ : Unit) => ∃ sN : Nat, sN ≤ 1 ∧ v = nI sN ∧ r = (if sN = tn then lo else lq)) (fun _ _ => True) zF) (vx_X (fun (_ : Unit) => True) (fun (E : String) _ _ => E = zIA ∧ ¬ (0 ≤ v ∧ v ≤ 1)) zF) 1 6 zF := by
  refine vx_ofW (cc := cX5_captured) (maxL := 2) (ret := (some .int)) (by decide) rfl ?_
  intro p e s m args below meth c s₁ B hml hnt hv
  obtain ⟨rfl, hP, hK, hX⟩ := hv
  have hx := B.exec
  have hb := B.bytes
  have hr := B.returns
  have hts := atoms_spec (ws := wsX5_captured) B.pre
  have hown : s.vm.findClass RX5 = some m.cls := findClass_of_methodNamed B.named
  have hlocks := B.notSynchronized
  have hinX3 : ∀ w ∈ wsX30, w ∈ wsX5_captured := by decide +kernel
  have hl := lv_entry ([.ref ax, .int v]) (n := 2) (Nat.le_of_ble_eq_true rfl)
  rw [lg_entry_eq]
  generalize (lg_sl ([.ref ax, .int v]) ++ List.replicate (2 - (lg_sl ([.ref ax, .int v])).length) Slot.unset).toArray = ls at hl ⊢
  have hl : lv_has ls 2 [(0, .ref ax), (1, .int v)] := hl
  have hS : va_S zF s.heap s.heap [] := va_S.rf
  have hl9 := hl.1.trans hml.symm
  have hY : zY zF s s.heap := (hX.2).narrow zF_A
  have htn := zSd_le hsd
  refine lv_iload_n hx hb dX5_captured_0 rfl (lv_at hl 1 rfl) ?_
  refine lv_iconst (v := 0) hx hb dX5_captured_1 (by decide) ?_
  refine lv_iconst (v := 1) hx hb dX5_captured_2 (by decide) ?_
  refine zth_v (m1 := 1) (s1 := 6) (vx_runS (As := [.int v, .int 0, .int 1]) (rest := []) ⟨hx, hb, hml, hown, hts⟩ (c_X5_refuseOutside l hl0 v 0 1) (va_cwS 3 hts gX5_captured_X5_refuseOutside rfl rfl rfl (by decide +kernel) ⟨Nat.le_of_ble_eq_true rfl, Nat.le_of_ble_eq_true rfl⟩) (zPx zB_Y (zY_at hY hS zF_A)) rfl rfl hl.1 rfl (lv_room (Nat.le_of_ble_eq_true rfl)) dX5_captured_3 ⟨Nat.le_of_ble_eq_true rfl, Nat.le_of_ble_eq_true rfl⟩) hP hS (fun x hx9 => (hnt x hx9).elim) hlocks (fun hN t ht => ⟨(), trivial, ⟨rfl, hN⟩, ht⟩) (Nat.le_of_ble_eq_true rfl) (Nat.le_of_ble_eq_true rfl) (fun H locs hG_3 hP hS => ?_)
  obtain ⟨sN, hsN, rfl⟩ := (zin_iff (n := 1) (by decide)).mp hG_3
  refine lv_aload_n hx hb dX5_captured_6 rfl (lv_at hl 0 rfl) ?_
  refine lv_iload_n hx hb dX5_captured_7 rfl (lv_at hl 1 rfl) ?_
  refine zro_r (va_runV (As := [.int (nI sN)]) (rest := []) ⟨hx, hb, hml, hown, hts⟩ (c_X5_sideOf l dC dI cyI cyJ ax a0 a1 ae aw (nI k) (nI tn) mk wn cnt sN (by omega)) (cwV 1 hts gX5_captured_X5_sideOf rfl rfl rfl (by decide +kernel) ⟨Nat.le_of_ble_eq_true rfl, Nat.le_of_ble_eq_true rfl⟩) (zPc_V (ci := 2) (q0 := 0) zB_T hP hK rfl rfl [0] rfl (fun _ _ _ => trivial)) rfl rfl hl.1 rfl (lv_room (Nat.le_of_ble_eq_true rfl)) dX5_captured_8 ⟨Nat.le_of_ble_eq_true rfl, Nat.le_of_ble_eq_true rfl⟩) hP hS (fun H locs hP hS => ?_)
  by_cases hst : sN = tn
  · skip
    refine zz_r (y := ao) (zSd_e hsd (by omega) hst) ?_
    refine va_get (D := (dC, dI)) (ci := 1) (v := .int lo) (C := RX3) (T := TX3) (N := 2) hx hb hts hinX3 hown hK hP 1 rfl rfl 1 (by decide) (hts (.fieldLink RX5 84 "RoyalUrTable$Side" "lost" "I") (List.mem_of_getElem? (i := 1) rfl)) (fun _ h9 => h9) rfl dX5_captured_11 ?_
    refine vx_ret (mc := 1) (ms := 6) ?_
    refine W.widen (k := 1) (n := 6) (Nat.le_of_ble_eq_true rfl) (Nat.le_of_ble_eq_true rfl) ?_
    exact W.iret (v := lo) hx hb hr (fun t ht hW => ⟨⟨_, (), rfl, ⟨sN, hsN, rfl, (by rw [if_pos hst])⟩, trivial⟩, hS.F ht⟩) hS.2.2 dX5_captured_14
  · skip
    refine zz_r (y := aq) (zSd_n hsd (by omega) hst) ?_
    refine va_get (D := (dC, dI)) (ci := 1) (v := .int lq) (C := RX3) (T := TX3) (N := 2) hx hb hts hinX3 hown hK hP 2 rfl rfl 1 (by decide) (hts (.fieldLink RX5 84 "RoyalUrTable$Side" "lost" "I") (List.mem_of_getElem? (i := 1) rfl)) (fun _ h9 => h9) rfl dX5_captured_11 ?_
    refine vx_ret (mc := 1) (ms := 6) ?_
    refine W.widen (k := 1) (n := 6) (Nat.le_of_ble_eq_true rfl) (Nat.le_of_ble_eq_true rfl) ?_
    exact W.iret (v := lq) hx hb hr (fun t ht hW => ⟨⟨_, (), rfl, ⟨sN, hsN, rfl, (by rw [if_neg hst])⟩, trivial⟩, hS.F ht⟩) hS.2.2 dX5_captured_14

set_option maxHeartbeats 4000000 in
set_option maxRecDepth 100000 in
theorem c_X5_captures (l : Launch) (hl0 : l.stackTraces = false) (dC : Nat → ClassId) (dI : Nat → Nat → Nat) (cyI cyJ : ClassId) (tb ax a0 a1 ae aw ao aq : Nat) (mk wn cnt lo lq : Int32) (k tn own oth mm : Nat) (hsd : zSd tn a0 a1 ao aq) (hO : zok k own) (hQ : zok k oth) (hmk : zmk mk mm) (hmm : mm ≤ 4) (v : Int32) : vx_Met l yX5_captures wsX5_captures ({ frames := 7, cells := 1, slots := 6, locals := 112 }) (zPc [.ref ax, .int v] (dC, dI) vwCl [(cyI, .int)] [(ax, .inr (2, [.ref a0, .ref a1, .ref ae, .ref aw, .int (nI k), .int (nI tn), .int mk, .int wn, .int cnt])), (ao, .inr (1, [.long (lN own), .int lo])), (aq, .inr (1, [.long (lN oth), .int lq]))] (fun U => zG tb zF U U.heap)) (va_Qi (fun (r : Int32) (_ : Unit) => ∃ fr, fr ≤ 14 ∧ v = nI fr ∧ r = bI (zcm own oth fr mm && ztk oth (fr + mm))) (fun _ _ => True) zF) (vx_X (fun (_ : Unit) => True) (fun (E : String) _ _ => E = zIA ∧ ¬ (0 ≤ v ∧ v ≤ 14)) zF) 1 6 zF := by
  refine vx_ofW (cc := cX5_captures) (maxL := 2) (ret := (some .boolean)) (by decide) rfl ?_
  intro p e s m args below meth c s₁ B hml hnt hv
  obtain ⟨rfl, hP, hK, hX⟩ := hv
  have hx := B.exec
  have hb := B.bytes
  have hr := B.returns
  have hts := atoms_spec (ws := wsX5_captures) B.pre
  have hown : s.vm.findClass RX5 = some m.cls := findClass_of_methodNamed B.named
  have hlocks := B.notSynchronized
  have hinX3 : ∀ w ∈ wsX30, w ∈ wsX5_captures := by decide +kernel
  have hinX5 : ∀ w ∈ wsX50, w ∈ wsX5_captures := by decide +kernel
  have hl := lv_entry ([.ref ax, .int v]) (n := 2) (Nat.le_of_ble_eq_true rfl)
  rw [lg_entry_eq]
  generalize (lg_sl ([.ref ax, .int v]) ++ List.replicate (2 - (lg_sl ([.ref ax, .int v])).length) Slot.unset).toArray = ls at hl ⊢
  have hl : lv_has ls 2 [(0, .ref ax), (1, .int v)] := hl
  have hS : va_S zF s.heap s.heap [] := va_S.rf
  have hl9 := hl.1.trans hml.symm
  have hY : zY zF s s.heap := (hX.2).narrow zF_A
  have htn := zSd_le hsd
  have hl2 := hQ.lt
  refine lv_iload_n hx hb dX5_captures_0 rfl (lv_at hl 1 rfl) ?_
  refine lv_iconst (v := 0) hx hb dX5_captures_1 (by decide) ?_
  refine lv_bipush (v := 14) hx hb dX5_captures_2 (by decide) ?_
  refine zth_v (m1 := 1) (s1 := 6) (vx_runS (As := [.int v, .int 0, .int 14]) (rest := []) ⟨hx, hb, hml, hown, hts⟩ (c_X5_refuseOutside l hl0 v 0 14) (va_cwS 3 hts gX5_captures_X5_refuseOutside rfl rfl rfl (by decide +kernel) ⟨Nat.le_of_ble_eq_true rfl, Nat.le_of_ble_eq_true rfl⟩) (zPx zB_Y (zY_at hY hS zF_A)) rfl rfl hl.1 rfl (lv_room (Nat.le_of_ble_eq_true rfl)) dX5_captures_4 ⟨Nat.le_of_ble_eq_true rfl, Nat.le_of_ble_eq_true rfl⟩) hP hS (fun x hx9 => (hnt x hx9).elim) hlocks (fun hN t ht => ⟨(), trivial, ⟨rfl, hN⟩, ht⟩) (Nat.le_of_ble_eq_true rfl) (Nat.le_of_ble_eq_true rfl) (fun H locs hG_4 hP hS => ?_)
  obtain ⟨fr, hfr, rfl⟩ := (zin_iff (n := 14) (by decide)).mp hG_4
  refine lv_aload_n hx hb dX5_captures_7 rfl (lv_at hl 0 rfl) ?_
  refine lv_iload_n hx hb dX5_captures_8 rfl (lv_at hl 1 rfl) ?_
  refine zro_i (va_runV (As := [.int (nI fr)]) (rest := []) ⟨hx, hb, hml, hown, hts⟩ (c_X5_canMoveFrom l dC dI cyI cyJ ax a0 a1 ae aw ao aq mk wn cnt lo lq k tn own oth hsd hO hQ mm fr hmk hmm (by omega)) (cwV 1 hts gX5_captures_X5_canMoveFrom rfl rfl rfl (by decide +kernel) ⟨Nat.le_of_ble_eq_true rfl, Nat.le_of_ble_eq_true rfl⟩) (zPc_V (ci := 2) (q0 := 0) zB_T hP hK rfl rfl [0, 1, 2] rfl (fun _ _ _ => trivial)) rfl rfl hl.1 rfl (lv_room (Nat.le_of_ble_eq_true rfl)) dX5_captures_9 ⟨Nat.le_of_ble_eq_true rfl, Nat.le_of_ble_eq_true rfl⟩) hP hS (fun H locs hP hS => ?_)
  refine lv_if_eq (tgt := 44) hx hb dX5_captures_12 (by decide) (fun c_12 => ?_) (fun c_12 => ?_)
  · skip
    have c_12 := bI_0.mp c_12
    refine lv_iconst (v := 0) hx hb dX5_captures_44 (by decide) ?_
    refine vx_ret (mc := 1) (ms := 6) ?_
    refine W.widen (k := 1) (n := 6) (Nat.le_of_ble_eq_true rfl) (Nat.le_of_ble_eq_true rfl) ?_
    exact W.zret (v := 0) hx hb hr rfl (fun t ht hW => ⟨⟨_, (), rfl, ⟨fr, hfr, rfl, bI_f (by rw [c_12]; rfl)⟩, trivial⟩, hS.F ht⟩) hS.2.2 dX5_captures_45
  · skip
    have c_12 := bI_1.mp c_12
    have hkn : mk = nI mm := zmk_eq hmk (zcm_spec c_12).1
    refine lv_aload_n hx hb dX5_captures_15 rfl (lv_at hl 0 rfl) ?_
    refine lv_iconst (v := 1) hx hb dX5_captures_16 (by decide) ?_
    refine lv_aload_n hx hb dX5_captures_17 rfl (lv_at hl 0 rfl) ?_
    refine va_get (D := (dC, dI)) (ci := 2) (v := .int (nI tn)) (C := RX5) (T := TX5) (N := 9) hx hb hts hinX5 hown hK hP 0 rfl rfl 5 (by decide) (hts (.fieldLink RX5 59 "RoyalUrTable" "turn" "I") (List.mem_of_getElem? (i := 1) rfl)) (fun _ h9 => h9) rfl dX5_captures_18 ?_
    refine lv_isub hx hb dX5_captures_21 ?_
    refine zz_i (y := nI (1 - tn)) (pk_sub (a := 1) (b := tn) (by omega)) ?_
    refine zro_r (va_runV (As := [.int (nI (1 - tn))]) (rest := []) ⟨hx, hb, hml, hown, hts⟩ (c_X5_sideOf l dC dI cyI cyJ ax a0 a1 ae aw (nI k) (nI tn) mk wn cnt (1 - tn) (by omega)) (cwV 1 hts gX5_captures_X5_sideOf rfl rfl rfl (by decide +kernel) ⟨Nat.le_of_ble_eq_true rfl, Nat.le_of_ble_eq_true rfl⟩) (zPc_V (ci := 2) (q0 := 0) zB_T hP hK rfl rfl [0] rfl (fun _ _ _ => trivial)) rfl rfl hl.1 rfl (lv_room (Nat.le_of_ble_eq_true rfl)) dX5_captures_22 ⟨Nat.le_of_ble_eq_true rfl, Nat.le_of_ble_eq_true rfl⟩) hP hS (fun H locs hP hS => ?_)
    refine zz_r (y := aq) (zSd_q hsd) ?_
    refine va_get (D := (dC, dI)) (ci := 1) (v := .long (lN oth)) (C := RX3) (T := TX3) (N := 2) hx hb hts hinX3 hown hK hP 2 rfl rfl 0 (by decide) (hts (.fieldLink RX5 70 "RoyalUrTable$Side" "layout" "J") (List.mem_of_getElem? (i := 2) rfl)) (fun _ h9 => h9) rfl dX5_captures_25 ?_
    refine lv_iload_n hx hb dX5_captures_28 rfl (lv_at hl 1 rfl) ?_
    refine lv_aload_n hx hb dX5_captures_29 rfl (lv_at hl 0 rfl) ?_
    refine va_get (D := (dC, dI)) (ci := 2) (v := .int mk) (C := RX5) (T := TX5) (N := 9) hx hb hts hinX5 hown hK hP 0 rfl rfl 6 (by decide) (hts (.fieldLink RX5 46 "RoyalUrTable" "marksTold" "I") (List.mem_of_getElem? (i := 3) rfl)) (fun _ h9 => h9) rfl dX5_captures_30 ?_
    refine zz_i (y := nI mm) hkn ?_
    refine lv_iadd hx hb dX5_captures_33 ?_
    refine zz_i (y := nI (fr + mm)) (nI_add fr mm) ?_
    refine zro_i (va_runS (As := [.long (lN oth), .int (nI (fr + mm))]) (rest := []) ⟨hx, hb, hml, hown, hts⟩ (c_X2_canBeTaken l oth (by omega) (fr + mm) (by omega)) (va_cwS 2 hts gX5_captures_X2_canBeTaken rfl rfl rfl (by decide +kernel) ⟨Nat.le_of_ble_eq_true rfl, Nat.le_of_ble_eq_true rfl⟩) zPu rfl rfl hl.1 rfl (lv_room (Nat.le_of_ble_eq_true rfl)) dX5_captures_34 ⟨Nat.le_of_ble_eq_true rfl, Nat.le_of_ble_eq_true rfl⟩) hP hS (fun H locs hP hS => ?_)
    refine lv_if_eq (tgt := 44) hx hb dX5_captures_37 (by decide) (fun c_37 => ?_) (fun c_37 => ?_)
    · skip
      have c_37 := bI_0.mp c_37
      refine lv_iconst (v := 0) hx hb dX5_captures_44 (by decide) ?_
      refine vx_ret (mc := 1) (ms := 6) ?_
      refine W.widen (k := 1) (n := 6) (Nat.le_of_ble_eq_true rfl) (Nat.le_of_ble_eq_true rfl) ?_
      exact W.zret (v := 0) hx hb hr rfl (fun t ht hW => ⟨⟨_, (), rfl, ⟨fr, hfr, rfl, bI_f (by rw [c_12, c_37]; rfl)⟩, trivial⟩, hS.F ht⟩) hS.2.2 dX5_captures_45
    · skip
      have c_37 := bI_1.mp c_37
      refine lv_iconst (v := 1) hx hb dX5_captures_40 (by decide) ?_
      refine lv_goto (tgt := 45) hx hb dX5_captures_41 (by decide) ?_
      refine vx_ret (mc := 1) (ms := 6) ?_
      refine W.widen (k := 1) (n := 6) (Nat.le_of_ble_eq_true rfl) (Nat.le_of_ble_eq_true rfl) ?_
      exact W.zret (v := 1) hx hb hr rfl (fun t ht hW => ⟨⟨_, (), rfl, ⟨fr, hfr, rfl, bI_t (by rw [c_12, c_37]; rfl)⟩, trivial⟩, hS.F ht⟩) hS.2.2 dX5_captures_45

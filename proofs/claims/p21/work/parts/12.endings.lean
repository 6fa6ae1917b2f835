/-! the endings of the class: a table that is filled round by round -/
/-- the first k rounds stand in the table -/
def zTb (k : Nat) (wf : Nat → Int32) : Prop := ∀ r, 1 ≤ r → r ≤ k → ∀ own oth, own < 15 → oth < 15 → wf ((r - 1) * 225 + own * 15 + oth) = nI (zE r own oth)
theorem zTb.le {k j : Nat} {wf : Nat → Int32} (h : zTb k wf) (hj : j ≤ k) : zTb j wf := fun r h1 h2 => h r h1 (by omega)
theorem zsm_s (f : Nat → Nat) (i : Nat) : lN (zsm f i) + lN (ztm i) * lN (f i) = lN (zsm f (i + 1)) := by
  rw [lN_mul, lN_add]; rfl
theorem ztm_l (m : Nat) : (nI (ztm m)).toInt64 = lN (ztm m) := nI_l (by have := ztm_le m; omega)
theorem nI_lw {x : Nat} (h : x ≤ 1000000000) : (nI x).toInt64 = lN x := nI_l (by omega)
theorem zdiv16 {x : Nat} (h : x ≤ 16000000000) : lN x / 16 = lN (x / 16) := pk_lDiv (by omega) (by decide) (by decide)
theorem zsubW {x : Nat} (h : x ≤ 1000000000) : (1000000000 : Int32) - nI x = nI (1000000000 - x) := pk_sub h
theorem zcen_le {p : Nat} {o t : Bool} (h : zcen p o t = true) : p ≤ 15 := by
  unfold zcen at h
  split at h
  · rw [beq_iff_eq] at h; omega
  · omega
set_option maxHeartbeats 4000000 in
set_option maxRecDepth 100000 in
theorem c_X1_held (l : Launch) (dC : Nat → ClassId) (dI : Nat → Nat → Nat) (cyI cyJ : ClassId) (ae at_ : Nat) (rh : Int32) (wf : Nat → Int32) (k : Nat) (hk : k ≤ 60) (htb : zTb k wf) (own oth rr : Nat) (ho : own < 15) (ht9 : oth < 15) (hr9 : rr ≤ k) : Met l yX1_held wsX1_held ({ frames := 0, cells := 0, slots := 0, locals := 0 }) (zPc [.ref ae, .int (nI own), .int (nI oth), .int (nI rr)] (dC, dI) vwCl [(cyI, .int)] [(ae, .inr (0, [.ref at_, .int rh])), (at_, .inl (cyI, 13500, .inl wf))] (fun _ => True)) (va_Qi (fun (r : Int32) (_ : Unit) => r = nI (zE rr own oth)) (fun _ _ => True) zF) 0 0 zF := by
  refine Met.ofW (cc := cX1_held) (maxL := 5) (ret := (some .int)) (by decide) rfl ?_
  intro p e s m args below meth c s₁ B hml hv
  obtain ⟨rfl, hP, hK, hX⟩ := hv
  have hx := B.exec
  have hb := B.bytes
  have hr := B.returns
  have hts := atoms_spec (ws := wsX1_held) B.pre
  have hown : s.vm.findClass RX1 = some m.cls := findClass_of_methodNamed B.named
  have hlocks := B.notSynchronized
  have hinX1 : ∀ w ∈ wsX10, w ∈ wsX1_held := by decide +kernel
  have hl := lv_entry ([.ref ae, .int (nI own), .int (nI oth), .int (nI rr)]) (n := 5) (Nat.le_of_ble_eq_true rfl)
  rw [lg_entry_eq]
  generalize (lg_sl ([.ref ae, .int (nI own), .int (nI oth), .int (nI rr)]) ++ List.replicate (5 - (lg_sl ([.ref ae, .int (nI own), .int (nI oth), .int (nI rr)])).length) Slot.unset).toArray = ls at hl ⊢
  have hl : lv_has ls 5 [(0, .ref ae), (1, .int (nI own)), (2, .int (nI oth)), (3, .int (nI rr))] := hl
  have hS : va_S zF s.heap s.heap [] := va_S.rf
  refine lv_iload_n hx hb dX1_held_0 rfl (lv_at hl 3 rfl) ?_
  refine lv_if_gt (tgt := 7) hx hb dX1_held_1 (by decide) (fun c_1 => ?_) (fun c_1 => ?_)
  · skip
    have c_1 : 0 < rr := (nI_ltI (a := 0) (b := rr) (by omega) (by omega)).mp c_1
    refine lv_iload_n hx hb dX1_held_7 rfl (lv_at hl 3 rfl) ?_
    refine lv_iconst (v := 1) hx hb dX1_held_8 (by decide) ?_
    refine lv_isub hx hb dX1_held_9 ?_
    refine zz_i (y := nI (rr - 1)) (pk_sub (a := rr) (b := 1) (by omega)) ?_
    refine lv_sipush (v := 225) hx hb dX1_held_10 (by decide) ?_
    refine lv_imul hx hb dX1_held_13 ?_
    refine zz_i (y := nI ((rr - 1) * 225)) (pk_mul (rr - 1) 225) ?_
    refine lv_iload_n hx hb dX1_held_14 rfl (lv_at hl 1 rfl) ?_
    refine lv_bipush (v := 15) hx hb dX1_held_15 (by decide) ?_
    refine lv_imul hx hb dX1_held_17 ?_
    refine zz_i (y := nI (own * 15)) (pk_mul own 15) ?_
    refine lv_iadd hx hb dX1_held_18 ?_
    refine zz_i (y := nI ((rr - 1) * 225 + own * 15)) (nI_add ((rr - 1) * 225) (own * 15)) ?_
    refine lv_iload_n hx hb dX1_held_19 rfl (lv_at hl 2 rfl) ?_
    refine lv_iadd hx hb dX1_held_20 ?_
    refine zz_i (y := nI ((rr - 1) * 225 + own * 15 + oth)) (nI_add ((rr - 1) * 225 + own * 15) oth) ?_
    refine lv_istore (lv' := [(4, .int (nI ((rr - 1) * 225 + own * 15 + oth))), (0, .ref ae), (1, .int (nI own)), (2, .int (nI oth)), (3, .int (nI rr))]) hx hb dX1_held_21 hl (by decide) rfl (fun ls hl => ?_)
    refine lv_iload hx hb dX1_held_23 (lv_at hl 0 rfl) ?_
    refine lv_if_lt (tgt := 38) hx hb dX1_held_25 (by decide) (fun c_25 => ?_) (fun c_25 => ?_)
    · skip
      have c_25 : ((rr - 1) * 225 + own * 15 + oth) < 0 := (nI_ltI (a := (rr - 1) * 225 + own * 15 + oth) (b := 0) (by omega) (by omega)).mp c_25
      exact absurd c_25 (Nat.not_lt_zero _)
    · skip
      have c_25 : ¬ ((rr - 1) * 225 + own * 15 + oth) < 0 := fun h9 => c_25 ((nI_ltI (a := (rr - 1) * 225 + own * 15 + oth) (b := 0) (by omega) (by omega)).mpr h9)
      refine lv_iload hx hb dX1_held_28 (lv_at hl 0 rfl) ?_
      refine lv_aload_n hx hb dX1_held_30 rfl (lv_at hl 1 rfl) ?_
      refine va_get (D := (dC, dI)) (ci := 0) (v := .ref at_) (C := RX1) (T := TX1) (N := 2) hx hb hts hinX1 hown hK hP 0 rfl rfl 0 (by decide) (hts (.fieldLink RX1 13 "RoyalUrTable$Endings" "worths" "[I") (List.mem_of_getElem? (i := 2) rfl)) (fun _ h9 => h9) rfl dX1_held_31 ?_
      refine va_alen (v := 13500) hx hb hK hP 1 0 rfl rfl rfl dX1_held_34 ?_
      refine lv_icmp_lt (tgt := 43) hx hb dX1_held_35 (by decide) (fun c_35 => ?_) (fun c_35 => ?_)
      · skip
        have c_35 : ((rr - 1) * 225 + own * 15 + oth) < 13500 := (nI_ltI (a := (rr - 1) * 225 + own * 15 + oth) (b := 13500) (by omega) (by omega)).mp c_35
        refine lv_aload_n hx hb dX1_held_43 rfl (lv_at hl 1 rfl) ?_
        refine va_get (D := (dC, dI)) (ci := 0) (v := .ref at_) (C := RX1) (T := TX1) (N := 2) hx hb hts hinX1 hown hK hP 0 rfl rfl 0 (by decide) (hts (.fieldLink RX1 13 "RoyalUrTable$Endings" "worths" "[I") (List.mem_of_getElem? (i := 2) rfl)) (fun _ h9 => h9) rfl dX1_held_44 ?_
        refine lv_iload hx hb dX1_held_47 (lv_at hl 0 rfl) ?_
        refine zi_iald hx hb hK hP 1 0 rfl rfl (j := (rr - 1) * 225 + own * 15 + oth) rfl (by omega) (by decide) dX1_held_49 ?_
        exact W.iret (v := wf ((rr - 1) * 225 + own * 15 + oth)) hx hb hr (fun t ht hW => ⟨⟨_, (), rfl, (htb rr (by omega) (by omega) own oth ho ht9), trivial⟩, hS.F ht⟩) hS.2.2 dX1_held_50
      · skip
        have c_35 : ¬ ((rr - 1) * 225 + own * 15 + oth) < 13500 := fun h9 => c_35 ((nI_ltI (a := (rr - 1) * 225 + own * 15 + oth) (b := 13500) (by omega) (by omega)).mpr h9)
        exact absurd (by omega) c_35
  · skip
    have c_1 : ¬ 0 < rr := fun h9 => c_1 ((nI_ltI (a := 0) (b := rr) (by omega) (by omega)).mpr h9)
    refine lv_ldc (v := 500000000) hx hb hown (hts (.constant RX1 31 (500000000)) (List.mem_of_getElem? (i := 1) rfl)) dX1_held_4 ?_
    exact W.iret (v := 500000000) hx hb hr (fun t ht hW => ⟨⟨_, (), rfl, (by rw [show rr = 0 by omega]; rfl), trivial⟩, hS.F ht⟩) hS.2.2 dX1_held_6

set_option maxHeartbeats 4000000 in
set_option maxRecDepth 100000 in
theorem c_X1_worthBehindThrow0 (l : Launch) (dC : Nat → ClassId) (dI : Nat → Nat → Nat) (cyI cyJ : ClassId) (tb : Nat) (ae at_ : Nat) (rh : Int32) (wf : Nat → Int32) (k : Nat) (hk : k ≤ 60) (htb : zTb k wf) (rt j : Nat) (hj : rt ≤ k) (hj2 : j ≤ 100) (hT : ∀ own oth : Nat, own < 15 → oth < 15 → Met l yX1_worthToThrow wsX1_worthToThrow ({ frames := 2 * j + 1, cells := 0, slots := 0, locals := 54 * j + 24 }) (zPc [.ref ae, .int (nI own), .int (nI oth), .int (nI (rt + j)), .int (nI rt)] (dC, dI) vwCl [(cyI, .int)] [(ae, .inr (0, [.ref at_, .int rh])), (at_, .inl (cyI, 13500, .inl wf))] (fun U => zX tb zF U U.heap)) (va_Qi (fun (r : Int32) (_ : Unit) => r = nI (zE (rt + j) own oth)) (fun _ _ => True) zF) 0 0 zF) (own oth mm : Nat) (ho : own < 15) (ht9 : oth < 15) (hmm : mm ≤ 4) : Met l yX1_worthBehindThrow wsX1_worthBehindThrow ({ frames := 2 * j + 2, cells := 0, slots := 0, locals := 54 * j + 51 }) (zPc [.ref ae, .int (nI own), .int (nI oth), .int (nI mm), .int (nI (rt + j)), .int (nI rt)] (dC, dI) vwCl [(cyI, .int)] [(ae, .inr (0, [.ref at_, .int rh])), (at_, .inl (cyI, 13500, .inl wf))] (fun U => zX tb zF U U.heap)) (va_Qi (fun (r : Int32) (_ : Unit) => r = nI (zEB (zE (rt + j)) own oth mm)) (fun _ _ => True) zF) 0 0 zF := by
  refine Met.ofW (cc := cX1_worthBehindThrow) (maxL := 8) (ret := (some .int)) (by decide) rfl ?_
  intro p e s m args below meth c s₁ B hml hv
  obtain ⟨rfl, hP, hK, hX⟩ := hv
  have hx := B.exec
  have hb := B.bytes
  have hr := B.returns
  have hts := atoms_spec (ws := wsX1_worthBehindThrow) B.pre
  have hown : s.vm.findClass RX1 = some m.cls := findClass_of_methodNamed B.named
  have hlocks := B.notSynchronized
  have hl := lv_entry ([.ref ae, .int (nI own), .int (nI oth), .int (nI mm), .int (nI (rt + j)), .int (nI rt)]) (n := 8) (Nat.le_of_ble_eq_true rfl)
  rw [lg_entry_eq]
  generalize (lg_sl ([.ref ae, .int (nI own), .int (nI oth), .int (nI mm), .int (nI (rt + j)), .int (nI rt)]) ++ List.replicate (8 - (lg_sl ([.ref ae, .int (nI own), .int (nI oth), .int (nI mm), .int (nI (rt + j)), .int (nI rt)])).length) Slot.unset).toArray = ls at hl ⊢
  have hl : lv_has ls 8 [(0, .ref ae), (1, .int (nI own)), (2, .int (nI oth)), (3, .int (nI mm)), (4, .int (nI (rt + j))), (5, .int (nI rt))] := hl
  have hS : va_S zF s.heap s.heap [] := va_S.rf
  refine lv_iload_n hx hb dX1_worthBehindThrow_0 rfl (lv_at hl 1 rfl) ?_
  refine lv_iload_n hx hb dX1_worthBehindThrow_1 rfl (lv_at hl 3 rfl) ?_
  refine lv_iadd hx hb dX1_worthBehindThrow_2 ?_
  refine zz_i (y := nI (own + mm)) (nI_add own mm) ?_
  refine lv_istore (lv' := [(6, .int (nI (own + mm))), (0, .ref ae), (1, .int (nI own)), (2, .int (nI oth)), (3, .int (nI mm)), (4, .int (nI (rt + j))), (5, .int (nI rt))]) hx hb dX1_worthBehindThrow_3 hl (by decide) rfl (fun ls hl => ?_)
  refine lv_iload_n hx hb dX1_worthBehindThrow_5 rfl (lv_at hl 4 rfl) ?_
  refine lv_if_eq (tgt := 29) hx hb dX1_worthBehindThrow_6 (by decide) (fun c_6 => ?_) (fun c_6 => ?_)
  · skip
    have c_6 : mm = 0 := (nI_eq (a := mm) (b := 0) (by omega) (by omega)).mp c_6
    refine lv_ldc (v := 1000000000) hx hb hown (hts (.constant RX1 56 (1000000000)) (List.mem_of_getElem? (i := 1) rfl)) dX1_worthBehindThrow_29 ?_
    refine lv_aload_n hx hb dX1_worthBehindThrow_31 rfl (lv_at hl 1 rfl) ?_
    refine lv_iload_n hx hb dX1_worthBehindThrow_32 rfl (lv_at hl 3 rfl) ?_
    refine lv_iload_n hx hb dX1_worthBehindThrow_33 rfl (lv_at hl 2 rfl) ?_
    refine lv_iload hx hb dX1_worthBehindThrow_34 (lv_at hl 5 rfl) ?_
    refine lv_iload hx hb dX1_worthBehindThrow_36 (lv_at hl 6 rfl) ?_
    refine zro_i (va_runV (As := [.int (nI oth), .int (nI own), .int (nI (rt + j)), .int (nI rt)]) (rest := [.int 1000000000]) ⟨hx, hb, hml, hown, hts⟩ (hT oth own (by omega) (by omega)) (cwV 4 hts gX1_worthBehindThrow_X1_worthToThrow rfl rfl rfl (by decide +kernel) ⟨(show (2 * j + 1) + 1 ≤ 2 * j + 2 by omega), (show 8 + (8 + 11) + (54 * j + 24) ≤ 54 * j + 51 by omega)⟩) (zPc_V (ci := 0) (q0 := 0) zB_X hP hK rfl rfl [0, 1] rfl (zX_at hX hS zF_A)) rfl rfl hl.1 rfl (lv_room (Nat.le_of_ble_eq_true rfl)) dX1_worthBehindThrow_38 ⟨Nat.zero_le _, Nat.zero_le _⟩) hP hS (fun H locs hP hS => ?_)
    have hle_38 := zE_le (rt + j) oth own
    refine lv_isub hx hb dX1_worthBehindThrow_41 ?_
    refine zz_i (y := nI (1000000000 - (zE (rt + j) oth own))) (pk_sub (a := 1000000000) (b := zE (rt + j) oth own) (by omega)) ?_
    exact W.iret (v := nI (1000000000 - (zE (rt + j) oth own))) hx hb hr (fun t ht hW => ⟨⟨_, (), rfl, (congrArg nI (by rw [zEB, if_pos c_6])), trivial⟩, hS.F ht⟩) hS.2.2 dX1_worthBehindThrow_42
  · skip
    have c_6 : ¬ mm = 0 := fun h9 => c_6 ((nI_eq (a := mm) (b := 0) (by omega) (by omega)).mpr h9)
    refine lv_iload hx hb dX1_worthBehindThrow_9 (lv_at hl 0 rfl) ?_
    refine lv_iconst (v := 0) hx hb dX1_worthBehindThrow_11 (by decide) ?_
    refine lv_iload_n hx hb dX1_worthBehindThrow_12 rfl (lv_at hl 3 rfl) ?_
    refine lv_iload hx hb dX1_worthBehindThrow_13 (lv_at hl 0 rfl) ?_
    refine lv_icmp_ne (tgt := 22) hx hb dX1_worthBehindThrow_15 (by decide) (fun c_15 => ?_) (fun c_15 => ?_)
    · skip
      have c_15 : ¬ oth = (own + mm) := fun h9 => c_15 ((nI_eq (a := oth) (b := own + mm) (by omega) (by omega)).mpr h9)
      refine lv_iconst (v := 0) hx hb dX1_worthBehindThrow_22 (by decide) ?_
      refine zro_i (va_runS (As := [.int (nI (own + mm)), .int 0, .int 0]) (rest := []) ⟨hx, hb, hml, hown, hts⟩ (c_X4_canEnter l (own + mm) (by omega) false false) (va_cwS 3 hts gX1_worthBehindThrow_X4_canEnter rfl rfl rfl (by decide +kernel) ⟨(show 0 + 1 ≤ 2 * j + 2 by omega), (show 8 + (3 + 11) + 0 ≤ 54 * j + 51 by omega)⟩) zPu rfl rfl hl.1 rfl (lv_room (Nat.le_of_ble_eq_true rfl)) dX1_worthBehindThrow_23 ⟨Nat.zero_le _, Nat.zero_le _⟩) hP hS (fun H locs hP hS => ?_)
      refine lv_if_ne (tgt := 43) hx hb dX1_worthBehindThrow_26 (by decide) (fun c_26 => ?_) (fun c_26 => ?_)
      · skip
        have c_26 := bI_1.mp c_26
        have hcl := zcen_le c_26
        refine lv_iload hx hb dX1_worthBehindThrow_43 (lv_at hl 0 rfl) ?_
        refine lv_bipush (v := 15) hx hb dX1_worthBehindThrow_45 (by decide) ?_
        refine lv_icmp_ne (tgt := 53) hx hb dX1_worthBehindThrow_47 (by decide) (fun c_47 => ?_) (fun c_47 => ?_)
        · skip
          have c_47 : ¬ (own + mm) = 15 := fun h9 => c_47 ((nI_eq (a := own + mm) (b := 15) (by omega) (by omega)).mpr h9)
          refine lv_iload_n hx hb dX1_worthBehindThrow_53 rfl (lv_at hl 3 rfl) ?_
          refine lv_iload hx hb dX1_worthBehindThrow_54 (lv_at hl 0 rfl) ?_
          refine lv_icmp_ne (tgt := 71) hx hb dX1_worthBehindThrow_56 (by decide) (fun c_56 => ?_) (fun c_56 => ?_)
          · skip
            have c_56 : ¬ oth = (own + mm) := fun h9 => c_56 ((nI_eq (a := oth) (b := own + mm) (by omega) (by omega)).mpr h9)
            refine lv_iload_n hx hb dX1_worthBehindThrow_71 rfl (lv_at hl 3 rfl) ?_
            refine lv_istore (lv' := [(7, .int (nI oth)), (6, .int (nI (own + mm))), (0, .ref ae), (1, .int (nI own)), (2, .int (nI oth)), (3, .int (nI mm)), (4, .int (nI (rt + j))), (5, .int (nI rt))]) hx hb dX1_worthBehindThrow_72 hl (by decide) rfl (fun ls hl => ?_)
            refine lv_iload hx hb dX1_worthBehindThrow_74 (lv_at hl 1 rfl) ?_
            refine zro_i (va_runS (As := [.int (nI (own + mm))]) (rest := []) ⟨hx, hb, hml, hown, hts⟩ (c_X4_isRosette l (own + mm) (by omega)) (va_cwS 1 hts gX1_worthBehindThrow_X4_isRosette rfl rfl rfl (by decide +kernel) ⟨(show 0 + 1 ≤ 2 * j + 2 by omega), (show 8 + (1 + 11) + 0 ≤ 54 * j + 51 by omega)⟩) zPu rfl rfl hl.1 rfl (lv_room (Nat.le_of_ble_eq_true rfl)) dX1_worthBehindThrow_76 ⟨Nat.zero_le _, Nat.zero_le _⟩) hP hS (fun H locs hP hS => ?_)
            refine lv_if_eq (tgt := 95) hx hb dX1_worthBehindThrow_79 (by decide) (fun c_79 => ?_) (fun c_79 => ?_)
            · skip
              have c_79 := bI_0.mp c_79
              refine lv_ldc (v := 1000000000) hx hb hown (hts (.constant RX1 56 (1000000000)) (List.mem_of_getElem? (i := 1) rfl)) dX1_worthBehindThrow_95 ?_
              refine lv_aload_n hx hb dX1_worthBehindThrow_97 rfl (lv_at hl 2 rfl) ?_
              refine lv_iload hx hb dX1_worthBehindThrow_98 (lv_at hl 0 rfl) ?_
              refine lv_iload hx hb dX1_worthBehindThrow_100 (lv_at hl 1 rfl) ?_
              refine lv_iload hx hb dX1_worthBehindThrow_102 (lv_at hl 6 rfl) ?_
              refine lv_iload hx hb dX1_worthBehindThrow_104 (lv_at hl 7 rfl) ?_
              refine zro_i (va_runV (As := [.int (nI oth), .int (nI (own + mm)), .int (nI (rt + j)), .int (nI rt)]) (rest := [.int 1000000000]) ⟨hx, hb, hml, hown, hts⟩ (hT oth (own + mm) (by omega) (by omega)) (cwV 4 hts gX1_worthBehindThrow_X1_worthToThrow rfl rfl rfl (by decide +kernel) ⟨(show (2 * j + 1) + 1 ≤ 2 * j + 2 by omega), (show 8 + (8 + 11) + (54 * j + 24) ≤ 54 * j + 51 by omega)⟩) (zPc_V (ci := 0) (q0 := 0) zB_X hP hK rfl rfl [0, 1] rfl (zX_at hX hS zF_A)) rfl rfl hl.1 rfl (lv_room (Nat.le_of_ble_eq_true rfl)) dX1_worthBehindThrow_106 ⟨Nat.zero_le _, Nat.zero_le _⟩) hP hS (fun H locs hP hS => ?_)
              have hle_106 := zE_le (rt + j) oth (own + mm)
              refine lv_isub hx hb dX1_worthBehindThrow_109 ?_
              refine zz_i (y := nI (1000000000 - (zE (rt + j) oth (own + mm)))) (pk_sub (a := 1000000000) (b := zE (rt + j) oth (own + mm)) (by omega)) ?_
              exact W.iret (v := nI (1000000000 - (zE (rt + j) oth (own + mm)))) hx hb hr (fun t ht hW => ⟨⟨_, (), rfl, (congrArg nI (by rw [zEB, if_neg c_6, if_neg (show ¬ zcen (own + mm) false (oth == own + mm) = false by rw [show (oth == own + mm) = false from (beq_eq_false_iff_ne.mpr c_15), c_26]; decide), if_neg c_47, if_neg (by rw [c_79]; decide), if_neg (fun h => c_15 h.1)])), trivial⟩, hS.F ht⟩) hS.2.2 dX1_worthBehindThrow_110
            · skip
              have c_79 := bI_1.mp c_79
              refine lv_aload_n hx hb dX1_worthBehindThrow_82 rfl (lv_at hl 2 rfl) ?_
              refine lv_iload hx hb dX1_worthBehindThrow_83 (lv_at hl 1 rfl) ?_
              refine lv_iload hx hb dX1_worthBehindThrow_85 (lv_at hl 0 rfl) ?_
              refine lv_iload hx hb dX1_worthBehindThrow_87 (lv_at hl 6 rfl) ?_
              refine lv_iload hx hb dX1_worthBehindThrow_89 (lv_at hl 7 rfl) ?_
              refine zro_i (va_runV (As := [.int (nI (own + mm)), .int (nI oth), .int (nI (rt + j)), .int (nI rt)]) (rest := []) ⟨hx, hb, hml, hown, hts⟩ (hT (own + mm) oth (by omega) (by omega)) (cwV 4 hts gX1_worthBehindThrow_X1_worthToThrow rfl rfl rfl (by decide +kernel) ⟨(show (2 * j + 1) + 1 ≤ 2 * j + 2 by omega), (show 8 + (8 + 11) + (54 * j + 24) ≤ 54 * j + 51 by omega)⟩) (zPc_V (ci := 0) (q0 := 0) zB_X hP hK rfl rfl [0, 1] rfl (zX_at hX hS zF_A)) rfl rfl hl.1 rfl (lv_room (Nat.le_of_ble_eq_true rfl)) dX1_worthBehindThrow_91 ⟨Nat.zero_le _, Nat.zero_le _⟩) hP hS (fun H locs hP hS => ?_)
              have hle_91 := zE_le (rt + j) (own + mm) oth
              exact W.iret (v := nI (zE (rt + j) (own + mm) oth)) hx hb hr (fun t ht hW => ⟨⟨_, (), rfl, (congrArg nI (by rw [zEB, if_neg c_6, if_neg (show ¬ zcen (own + mm) false (oth == own + mm) = false by rw [show (oth == own + mm) = false from (beq_eq_false_iff_ne.mpr c_15), c_26]; decide), if_neg c_47, if_pos c_79, if_neg (fun h => c_15 h.1)])), trivial⟩, hS.F ht⟩) hS.2.2 dX1_worthBehindThrow_94
          · skip
            have c_56 : oth = (own + mm) := (nI_eq (a := oth) (b := own + mm) (by omega) (by omega)).mp c_56
            exact absurd c_56 c_15
        · skip
          have c_47 : (own + mm) = 15 := (nI_eq (a := own + mm) (b := 15) (by omega) (by omega)).mp c_47
          refine lv_ldc (v := 1000000000) hx hb hown (hts (.constant RX1 56 (1000000000)) (List.mem_of_getElem? (i := 1) rfl)) dX1_worthBehindThrow_50 ?_
          exact W.iret (v := 1000000000) hx hb hr (fun t ht hW => ⟨⟨_, (), rfl, (congrArg nI (by rw [zEB, if_neg c_6, if_neg (show ¬ zcen (own + mm) false (oth == own + mm) = false by rw [show (oth == own + mm) = false from (beq_eq_false_iff_ne.mpr c_15), c_26]; decide), if_pos c_47])), trivial⟩, hS.F ht⟩) hS.2.2 dX1_worthBehindThrow_52
      · skip
        have c_26 := bI_0.mp c_26
        refine lv_ldc (v := 1000000000) hx hb hown (hts (.constant RX1 56 (1000000000)) (List.mem_of_getElem? (i := 1) rfl)) dX1_worthBehindThrow_29 ?_
        refine lv_aload_n hx hb dX1_worthBehindThrow_31 rfl (lv_at hl 1 rfl) ?_
        refine lv_iload_n hx hb dX1_worthBehindThrow_32 rfl (lv_at hl 3 rfl) ?_
        refine lv_iload_n hx hb dX1_worthBehindThrow_33 rfl (lv_at hl 2 rfl) ?_
        refine lv_iload hx hb dX1_worthBehindThrow_34 (lv_at hl 5 rfl) ?_
        refine lv_iload hx hb dX1_worthBehindThrow_36 (lv_at hl 6 rfl) ?_
        refine zro_i (va_runV (As := [.int (nI oth), .int (nI own), .int (nI (rt + j)), .int (nI rt)]) (rest := [.int 1000000000]) ⟨hx, hb, hml, hown, hts⟩ (hT oth own (by omega) (by omega)) (cwV 4 hts gX1_worthBehindThrow_X1_worthToThrow rfl rfl rfl (by decide +kernel) ⟨(show (2 * j + 1) + 1 ≤ 2 * j + 2 by omega), (show 8 + (8 + 11) + (54 * j + 24) ≤ 54 * j + 51 by omega)⟩) (zPc_V (ci := 0) (q0 := 0) zB_X hP hK rfl rfl [0, 1] rfl (zX_at hX hS zF_A)) rfl rfl hl.1 rfl (lv_room (Nat.le_of_ble_eq_true rfl)) dX1_worthBehindThrow_38 ⟨Nat.zero_le _, Nat.zero_le _⟩) hP hS (fun H locs hP hS => ?_)
        have hle_38 := zE_le (rt + j) oth own
        refine lv_isub hx hb dX1_worthBehindThrow_41 ?_
        refine zz_i (y := nI (1000000000 - (zE (rt + j) oth own))) (pk_sub (a := 1000000000) (b := zE (rt + j) oth own) (by omega)) ?_
        exact W.iret (v := nI (1000000000 - (zE (rt + j) oth own))) hx hb hr (fun t ht hW => ⟨⟨_, (), rfl, (congrArg nI (by rw [zEB, if_neg c_6, if_pos (by rw [show (oth == own + mm) = false from (beq_eq_false_iff_ne.mpr c_15)]; exact c_26)])), trivial⟩, hS.F ht⟩) hS.2.2 dX1_worthBehindThrow_42
    · skip
      have c_15 : oth = (own + mm) := (nI_eq (a := oth) (b := own + mm) (by omega) (by omega)).mp c_15
      refine lv_iconst (v := 1) hx hb dX1_worthBehindThrow_18 (by decide) ?_
      refine lv_goto (tgt := 23) hx hb dX1_worthBehindThrow_19 (by decide) ?_
      refine zro_i (va_runS (As := [.int (nI (own + mm)), .int 0, .int 1]) (rest := []) ⟨hx, hb, hml, hown, hts⟩ (c_X4_canEnter l (own + mm) (by omega) false true) (va_cwS 3 hts gX1_worthBehindThrow_X4_canEnter rfl rfl rfl (by decide +kernel) ⟨(show 0 + 1 ≤ 2 * j + 2 by omega), (show 8 + (3 + 11) + 0 ≤ 54 * j + 51 by omega)⟩) zPu rfl rfl hl.1 rfl (lv_room (Nat.le_of_ble_eq_true rfl)) dX1_worthBehindThrow_23 ⟨Nat.zero_le _, Nat.zero_le _⟩) hP hS (fun H locs hP hS => ?_)
      refine lv_if_ne (tgt := 43) hx hb dX1_worthBehindThrow_26 (by decide) (fun c_26 => ?_) (fun c_26 => ?_)
      · skip
        have c_26 := bI_1.mp c_26
        have hcl := zcen_le c_26
        refine lv_iload hx hb dX1_worthBehindThrow_43 (lv_at hl 0 rfl) ?_
        refine lv_bipush (v := 15) hx hb dX1_worthBehindThrow_45 (by decide) ?_
        refine lv_icmp_ne (tgt := 53) hx hb dX1_worthBehindThrow_47 (by decide) (fun c_47 => ?_) (fun c_47 => ?_)
        · skip
          have c_47 : ¬ (own + mm) = 15 := fun h9 => c_47 ((nI_eq (a := own + mm) (b := 15) (by omega) (by omega)).mpr h9)
          refine lv_iload_n hx hb dX1_worthBehindThrow_53 rfl (lv_at hl 3 rfl) ?_
          refine lv_iload hx hb dX1_worthBehindThrow_54 (lv_at hl 0 rfl) ?_
          refine lv_icmp_ne (tgt := 71) hx hb dX1_worthBehindThrow_56 (by decide) (fun c_56 => ?_) (fun c_56 => ?_)
          · skip
            have c_56 : ¬ oth = (own + mm) := fun h9 => c_56 ((nI_eq (a := oth) (b := own + mm) (by omega) (by omega)).mpr h9)
            exact absurd c_15 c_56
          · skip
            have c_56 : oth = (own + mm) := (nI_eq (a := oth) (b := own + mm) (by omega) (by omega)).mp c_56
            refine lv_iload hx hb dX1_worthBehindThrow_59 (lv_at hl 0 rfl) ?_
            refine zro_i (va_runS (As := [.int (nI (own + mm))]) (rest := []) ⟨hx, hb, hml, hown, hts⟩ (c_X4_isShared l (own + mm) (by omega)) (va_cwS 1 hts gX1_worthBehindThrow_X4_isShared rfl rfl rfl (by decide +kernel) ⟨(show 0 + 1 ≤ 2 * j + 2 by omega), (show 8 + (1 + 11) + 0 ≤ 54 * j + 51 by omega)⟩) zPu rfl rfl hl.1 rfl (lv_room (Nat.le_of_ble_eq_true rfl)) dX1_worthBehindThrow_61 ⟨Nat.zero_le _, Nat.zero_le _⟩) hP hS (fun H locs hP hS => ?_)
            refine lv_if_eq (tgt := 71) hx hb dX1_worthBehindThrow_64 (by decide) (fun c_64 => ?_) (fun c_64 => ?_)
            · skip
              have c_64 := bI_0.mp c_64
              refine lv_iload_n hx hb dX1_worthBehindThrow_71 rfl (lv_at hl 3 rfl) ?_
              refine lv_istore (lv' := [(7, .int (nI oth)), (6, .int (nI (own + mm))), (0, .ref ae), (1, .int (nI own)), (2, .int (nI oth)), (3, .int (nI mm)), (4, .int (nI (rt + j))), (5, .int (nI rt))]) hx hb dX1_worthBehindThrow_72 hl (by decide) rfl (fun ls hl => ?_)
              refine lv_iload hx hb dX1_worthBehindThrow_74 (lv_at hl 1 rfl) ?_
              refine zro_i (va_runS (As := [.int (nI (own + mm))]) (rest := []) ⟨hx, hb, hml, hown, hts⟩ (c_X4_isRosette l (own + mm) (by omega)) (va_cwS 1 hts gX1_worthBehindThrow_X4_isRosette rfl rfl rfl (by decide +kernel) ⟨(show 0 + 1 ≤ 2 * j + 2 by omega), (show 8 + (1 + 11) + 0 ≤ 54 * j + 51 by omega)⟩) zPu rfl rfl hl.1 rfl (lv_room (Nat.le_of_ble_eq_true rfl)) dX1_worthBehindThrow_76 ⟨Nat.zero_le _, Nat.zero_le _⟩) hP hS (fun H locs hP hS => ?_)
              refine lv_if_eq (tgt := 95) hx hb dX1_worthBehindThrow_79 (by decide) (fun c_79 => ?_) (fun c_79 => ?_)
              · skip
                have c_79 := bI_0.mp c_79
                refine lv_ldc (v := 1000000000) hx hb hown (hts (.constant RX1 56 (1000000000)) (List.mem_of_getElem? (i := 1) rfl)) dX1_worthBehindThrow_95 ?_
                refine lv_aload_n hx hb dX1_worthBehindThrow_97 rfl (lv_at hl 2 rfl) ?_
                refine lv_iload hx hb dX1_worthBehindThrow_98 (lv_at hl 0 rfl) ?_
                refine lv_iload hx hb dX1_worthBehindThrow_100 (lv_at hl 1 rfl) ?_
                refine lv_iload hx hb dX1_worthBehindThrow_102 (lv_at hl 6 rfl) ?_
                refine lv_iload hx hb dX1_worthBehindThrow_104 (lv_at hl 7 rfl) ?_
                refine zro_i (va_runV (As := [.int (nI oth), .int (nI (own + mm)), .int (nI (rt + j)), .int (nI rt)]) (rest := [.int 1000000000]) ⟨hx, hb, hml, hown, hts⟩ (hT oth (own + mm) (by omega) (by omega)) (cwV 4 hts gX1_worthBehindThrow_X1_worthToThrow rfl rfl rfl (by decide +kernel) ⟨(show (2 * j + 1) + 1 ≤ 2 * j + 2 by omega), (show 8 + (8 + 11) + (54 * j + 24) ≤ 54 * j + 51 by omega)⟩) (zPc_V (ci := 0) (q0 := 0) zB_X hP hK rfl rfl [0, 1] rfl (zX_at hX hS zF_A)) rfl rfl hl.1 rfl (lv_room (Nat.le_of_ble_eq_true rfl)) dX1_worthBehindThrow_106 ⟨Nat.zero_le _, Nat.zero_le _⟩) hP hS (fun H locs hP hS => ?_)
                have hle_106 := zE_le (rt + j) oth (own + mm)
                refine lv_isub hx hb dX1_worthBehindThrow_109 ?_
                refine zz_i (y := nI (1000000000 - (zE (rt + j) oth (own + mm)))) (pk_sub (a := 1000000000) (b := zE (rt + j) oth (own + mm)) (by omega)) ?_
                exact W.iret (v := nI (1000000000 - (zE (rt + j) oth (own + mm)))) hx hb hr (fun t ht hW => ⟨⟨_, (), rfl, (congrArg nI (by rw [zEB, if_neg c_6, if_neg (show ¬ zcen (own + mm) false (oth == own + mm) = false by rw [show (oth == own + mm) = true from (beq_iff_eq.mpr c_15), c_26]; decide), if_neg c_47, if_neg (by rw [c_79]; decide), if_neg (fun h => by rw [h.2] at c_64; cases c_64)])), trivial⟩, hS.F ht⟩) hS.2.2 dX1_worthBehindThrow_110
              · skip
                have c_79 := bI_1.mp c_79
                refine lv_aload_n hx hb dX1_worthBehindThrow_82 rfl (lv_at hl 2 rfl) ?_
                refine lv_iload hx hb dX1_worthBehindThrow_83 (lv_at hl 1 rfl) ?_
                refine lv_iload hx hb dX1_worthBehindThrow_85 (lv_at hl 0 rfl) ?_
                refine lv_iload hx hb dX1_worthBehindThrow_87 (lv_at hl 6 rfl) ?_
                refine lv_iload hx hb dX1_worthBehindThrow_89 (lv_at hl 7 rfl) ?_
                refine zro_i (va_runV (As := [.int (nI (own + mm)), .int (nI oth), .int (nI (rt + j)), .int (nI rt)]) (rest := []) ⟨hx, hb, hml, hown, hts⟩ (hT (own + mm) oth (by omega) (by omega)) (cwV 4 hts gX1_worthBehindThrow_X1_worthToThrow rfl rfl rfl (by decide +kernel) ⟨(show (2 * j + 1) + 1 ≤ 2 * j + 2 by omega), (show 8 + (8 + 11) + (54 * j + 24) ≤ 54 * j + 51 by omega)⟩) (zPc_V (ci := 0) (q0 := 0) zB_X hP hK rfl rfl [0, 1] rfl (zX_at hX hS zF_A)) rfl rfl hl.1 rfl (lv_room (Nat.le_of_ble_eq_true rfl)) dX1_worthBehindThrow_91 ⟨Nat.zero_le _, Nat.zero_le _⟩) hP hS (fun H locs hP hS => ?_)
                have hle_91 := zE_le (rt + j) (own + mm) oth
                exact W.iret (v := nI (zE (rt + j) (own + mm) oth)) hx hb hr (fun t ht hW => ⟨⟨_, (), rfl, (congrArg nI (by rw [zEB, if_neg c_6, if_neg (show ¬ zcen (own + mm) false (oth == own + mm) = false by rw [show (oth == own + mm) = true from (beq_iff_eq.mpr c_15), c_26]; decide), if_neg c_47, if_pos c_79, if_neg (fun h => by rw [h.2] at c_64; cases c_64)])), trivial⟩, hS.F ht⟩) hS.2.2 dX1_worthBehindThrow_94
            · skip
              have c_64 := bI_1.mp c_64
              refine lv_iconst (v := 0) hx hb dX1_worthBehindThrow_67 (by decide) ?_
              refine lv_goto (tgt := 72) hx hb dX1_worthBehindThrow_68 (by decide) ?_
              refine lv_istore (lv' := [(7, .int 0), (6, .int (nI (own + mm))), (0, .ref ae), (1, .int (nI own)), (2, .int (nI oth)), (3, .int (nI mm)), (4, .int (nI (rt + j))), (5, .int (nI rt))]) hx hb dX1_worthBehindThrow_72 hl (by decide) rfl (fun ls hl => ?_)
              refine lv_iload hx hb dX1_worthBehindThrow_74 (lv_at hl 1 rfl) ?_
              refine zro_i (va_runS (As := [.int (nI (own + mm))]) (rest := []) ⟨hx, hb, hml, hown, hts⟩ (c_X4_isRosette l (own + mm) (by omega)) (va_cwS 1 hts gX1_worthBehindThrow_X4_isRosette rfl rfl rfl (by decide +kernel) ⟨(show 0 + 1 ≤ 2 * j + 2 by omega), (show 8 + (1 + 11) + 0 ≤ 54 * j + 51 by omega)⟩) zPu rfl rfl hl.1 rfl (lv_room (Nat.le_of_ble_eq_true rfl)) dX1_worthBehindThrow_76 ⟨Nat.zero_le _, Nat.zero_le _⟩) hP hS (fun H locs hP hS => ?_)
              refine lv_if_eq (tgt := 95) hx hb dX1_worthBehindThrow_79 (by decide) (fun c_79 => ?_) (fun c_79 => ?_)
              · skip
                have c_79 := bI_0.mp c_79
                refine lv_ldc (v := 1000000000) hx hb hown (hts (.constant RX1 56 (1000000000)) (List.mem_of_getElem? (i := 1) rfl)) dX1_worthBehindThrow_95 ?_
                refine lv_aload_n hx hb dX1_worthBehindThrow_97 rfl (lv_at hl 2 rfl) ?_
                refine lv_iload hx hb dX1_worthBehindThrow_98 (lv_at hl 0 rfl) ?_
                refine lv_iload hx hb dX1_worthBehindThrow_100 (lv_at hl 1 rfl) ?_
                refine lv_iload hx hb dX1_worthBehindThrow_102 (lv_at hl 6 rfl) ?_
                refine lv_iload hx hb dX1_worthBehindThrow_104 (lv_at hl 7 rfl) ?_
                refine zro_i (va_runV (As := [.int 0, .int (nI (own + mm)), .int (nI (rt + j)), .int (nI rt)]) (rest := [.int 1000000000]) ⟨hx, hb, hml, hown, hts⟩ (hT 0 (own + mm) (by omega) (by omega)) (cwV 4 hts gX1_worthBehindThrow_X1_worthToThrow rfl rfl rfl (by decide +kernel) ⟨(show (2 * j + 1) + 1 ≤ 2 * j + 2 by omega), (show 8 + (8 + 11) + (54 * j + 24) ≤ 54 * j + 51 by omega)⟩) (zPc_V (ci := 0) (q0 := 0) zB_X hP hK rfl rfl [0, 1] rfl (zX_at hX hS zF_A)) rfl rfl hl.1 rfl (lv_room (Nat.le_of_ble_eq_true rfl)) dX1_worthBehindThrow_106 ⟨Nat.zero_le _, Nat.zero_le _⟩) hP hS (fun H locs hP hS => ?_)
                have hle_106 := zE_le (rt + j) 0 (own + mm)
                refine lv_isub hx hb dX1_worthBehindThrow_109 ?_
                refine zz_i (y := nI (1000000000 - (zE (rt + j) 0 (own + mm)))) (pk_sub (a := 1000000000) (b := zE (rt + j) 0 (own + mm)) (by omega)) ?_
                exact W.iret (v := nI (1000000000 - (zE (rt + j) 0 (own + mm)))) hx hb hr (fun t ht hW => ⟨⟨_, (), rfl, (congrArg nI (by rw [zEB, if_neg c_6, if_neg (show ¬ zcen (own + mm) false (oth == own + mm) = false by rw [show (oth == own + mm) = true from (beq_iff_eq.mpr c_15), c_26]; decide), if_neg c_47, if_neg (by rw [c_79]; decide), if_pos ⟨c_15, c_64⟩])), trivial⟩, hS.F ht⟩) hS.2.2 dX1_worthBehindThrow_110
              · skip
                have c_79 := bI_1.mp c_79
                refine lv_aload_n hx hb dX1_worthBehindThrow_82 rfl (lv_at hl 2 rfl) ?_
                refine lv_iload hx hb dX1_worthBehindThrow_83 (lv_at hl 1 rfl) ?_
                refine lv_iload hx hb dX1_worthBehindThrow_85 (lv_at hl 0 rfl) ?_
                refine lv_iload hx hb dX1_worthBehindThrow_87 (lv_at hl 6 rfl) ?_
                refine lv_iload hx hb dX1_worthBehindThrow_89 (lv_at hl 7 rfl) ?_
                refine zro_i (va_runV (As := [.int (nI (own + mm)), .int 0, .int (nI (rt + j)), .int (nI rt)]) (rest := []) ⟨hx, hb, hml, hown, hts⟩ (hT (own + mm) 0 (by omega) (by omega)) (cwV 4 hts gX1_worthBehindThrow_X1_worthToThrow rfl rfl rfl (by decide +kernel) ⟨(show (2 * j + 1) + 1 ≤ 2 * j + 2 by omega), (show 8 + (8 + 11) + (54 * j + 24) ≤ 54 * j + 51 by omega)⟩) (zPc_V (ci := 0) (q0 := 0) zB_X hP hK rfl rfl [0, 1] rfl (zX_at hX hS zF_A)) rfl rfl hl.1 rfl (lv_room (Nat.le_of_ble_eq_true rfl)) dX1_worthBehindThrow_91 ⟨Nat.zero_le _, Nat.zero_le _⟩) hP hS (fun H locs hP hS => ?_)
                have hle_91 := zE_le (rt + j) (own + mm) 0
                exact W.iret (v := nI (zE (rt + j) (own + mm) 0)) hx hb hr (fun t ht hW => ⟨⟨_, (), rfl, (congrArg nI (by rw [zEB, if_neg c_6, if_neg (show ¬ zcen (own + mm) false (oth == own + mm) = false by rw [show (oth == own + mm) = true from (beq_iff_eq.mpr c_15), c_26]; decide), if_neg c_47, if_pos c_79, if_pos ⟨c_15, c_64⟩])), trivial⟩, hS.F ht⟩) hS.2.2 dX1_worthBehindThrow_94
        · skip
          have c_47 : (own + mm) = 15 := (nI_eq (a := own + mm) (b := 15) (by omega) (by omega)).mp c_47
          refine lv_ldc (v := 1000000000) hx hb hown (hts (.constant RX1 56 (1000000000)) (List.mem_of_getElem? (i := 1) rfl)) dX1_worthBehindThrow_50 ?_
          exact W.iret (v := 1000000000) hx hb hr (fun t ht hW => ⟨⟨_, (), rfl, (congrArg nI (by rw [zEB, if_neg c_6, if_neg (show ¬ zcen (own + mm) false (oth == own + mm) = false by rw [show (oth == own + mm) = true from (beq_iff_eq.mpr c_15), c_26]; decide), if_pos c_47])), trivial⟩, hS.F ht⟩) hS.2.2 dX1_worthBehindThrow_52
      · skip
        have c_26 := bI_0.mp c_26
        refine lv_ldc (v := 1000000000) hx hb hown (hts (.constant RX1 56 (1000000000)) (List.mem_of_getElem? (i := 1) rfl)) dX1_worthBehindThrow_29 ?_
        refine lv_aload_n hx hb dX1_worthBehindThrow_31 rfl (lv_at hl 1 rfl) ?_
        refine lv_iload_n hx hb dX1_worthBehindThrow_32 rfl (lv_at hl 3 rfl) ?_
        refine lv_iload_n hx hb dX1_worthBehindThrow_33 rfl (lv_at hl 2 rfl) ?_
        refine lv_iload hx hb dX1_worthBehindThrow_34 (lv_at hl 5 rfl) ?_
        refine lv_iload hx hb dX1_worthBehindThrow_36 (lv_at hl 6 rfl) ?_
        refine zro_i (va_runV (As := [.int (nI oth), .int (nI own), .int (nI (rt + j)), .int (nI rt)]) (rest := [.int 1000000000]) ⟨hx, hb, hml, hown, hts⟩ (hT oth own (by omega) (by omega)) (cwV 4 hts gX1_worthBehindThrow_X1_worthToThrow rfl rfl rfl (by decide +kernel) ⟨(show (2 * j + 1) + 1 ≤ 2 * j + 2 by omega), (show 8 + (8 + 11) + (54 * j + 24) ≤ 54 * j + 51 by omega)⟩) (zPc_V (ci := 0) (q0 := 0) zB_X hP hK rfl rfl [0, 1] rfl (zX_at hX hS zF_A)) rfl rfl hl.1 rfl (lv_room (Nat.le_of_ble_eq_true rfl)) dX1_worthBehindThrow_38 ⟨Nat.zero_le _, Nat.zero_le _⟩) hP hS (fun H locs hP hS => ?_)
        have hle_38 := zE_le (rt + j) oth own
        refine lv_isub hx hb dX1_worthBehindThrow_41 ?_
        refine zz_i (y := nI (1000000000 - (zE (rt + j) oth own))) (pk_sub (a := 1000000000) (b := zE (rt + j) oth own) (by omega)) ?_
        exact W.iret (v := nI (1000000000 - (zE (rt + j) oth own))) hx hb hr (fun t ht hW => ⟨⟨_, (), rfl, (congrArg nI (by rw [zEB, if_neg c_6, if_pos (by rw [show (oth == own + mm) = true from (beq_iff_eq.mpr c_15)]; exact c_26)])), trivial⟩, hS.F ht⟩) hS.2.2 dX1_worthBehindThrow_42

set_option maxHeartbeats 4000000 in
set_option maxRecDepth 100000 in
theorem c_X1_worthToThrow0 (l : Launch) (dC : Nat → ClassId) (dI : Nat → Nat → Nat) (cyI cyJ : ClassId) (tb : Nat) (ae at_ : Nat) (rh : Int32) (wf : Nat → Int32) (k : Nat) (hk : k ≤ 60) (htb : zTb k wf) (rt : Nat) (hj : rt ≤ k) (own oth : Nat) (ho : own < 15) (ht9 : oth < 15) : Met l yX1_worthToThrow wsX1_worthToThrow ({ frames := 1, cells := 0, slots := 0, locals := 24 }) (zPc [.ref ae, .int (nI own), .int (nI oth), .int (nI rt), .int (nI rt)] (dC, dI) vwCl [(cyI, .int)] [(ae, .inr (0, [.ref at_, .int rh])), (at_, .inl (cyI, 13500, .inl wf))] (fun U => zX tb zF U U.heap)) (va_Qi (fun (r : Int32) (_ : Unit) => r = nI (zE rt own oth)) (fun _ _ => True) zF) 0 0 zF := by
  refine Met.ofW (cc := cX1_worthToThrow) (maxL := 8) (ret := (some .int)) (by decide) rfl ?_
  intro p e s m args below meth c s₁ B hml hv
  obtain ⟨rfl, hP, hK, hX⟩ := hv
  have hx := B.exec
  have hb := B.bytes
  have hr := B.returns
  have hts := atoms_spec (ws := wsX1_worthToThrow) B.pre
  have hown : s.vm.findClass RX1 = some m.cls := findClass_of_methodNamed B.named
  have hlocks := B.notSynchronized
  have hl := lv_entry ([.ref ae, .int (nI own), .int (nI oth), .int (nI rt), .int (nI rt)]) (n := 8) (Nat.le_of_ble_eq_true rfl)
  rw [lg_entry_eq]
  generalize (lg_sl ([.ref ae, .int (nI own), .int (nI oth), .int (nI rt), .int (nI rt)]) ++ List.replicate (8 - (lg_sl ([.ref ae, .int (nI own), .int (nI oth), .int (nI rt), .int (nI rt)])).length) Slot.unset).toArray = ls at hl ⊢
  have hl : lv_has ls 8 [(0, .ref ae), (1, .int (nI own)), (2, .int (nI oth)), (3, .int (nI rt)), (4, .int (nI rt))] := hl
  have hS : va_S zF s.heap s.heap [] := va_S.rf
  generalize hQe : MQ below _ _ _ _ _ _ = Q
  refine lv_iload_n hx hb dX1_worthToThrow_0 rfl (lv_at hl 3 rfl) ?_
  refine lv_iload hx hb dX1_worthToThrow_1 (lv_at hl 4 rfl) ?_
  refine lv_icmp_gt (tgt := 14) hx hb dX1_worthToThrow_3 (by decide) (fun c_3 => ?_) (fun c_3 => ?_)
  · skip
    have c_3 : rt < rt := (nI_ltI (a := rt) (b := rt) (by omega) (by omega)).mp c_3
    exact absurd c_3 (Nat.lt_irrefl _)
  · skip
    have c_3 : ¬ rt < rt := fun h9 => c_3 ((nI_ltI (a := rt) (b := rt) (by omega) (by omega)).mpr h9)
    refine lv_aload_n hx hb dX1_worthToThrow_6 rfl (lv_at hl 0 rfl) ?_
    refine lv_iload_n hx hb dX1_worthToThrow_7 rfl (lv_at hl 1 rfl) ?_
    refine lv_iload_n hx hb dX1_worthToThrow_8 rfl (lv_at hl 2 rfl) ?_
    refine lv_iload_n hx hb dX1_worthToThrow_9 rfl (lv_at hl 3 rfl) ?_
    refine zro_i (va_runV (As := [.int (nI own), .int (nI oth), .int (nI rt)]) (rest := []) ⟨hx, hb, hml, hown, hts⟩ (c_X1_held l dC dI cyI cyJ ae at_ rh wf k hk htb own oth rt (by omega) (by omega) (by omega)) (cwV 3 hts gX1_worthToThrow_X1_held rfl rfl rfl (by decide +kernel) ⟨(show 0 + 1 ≤ 1 by omega), (show 8 + (5 + 11) + 0 ≤ 24 by omega)⟩) (zPc_V (ci := 0) (q0 := 0) zB_T hP hK rfl rfl [0, 1] rfl (fun _ _ _ => trivial)) rfl rfl hl.1 rfl (lv_room (Nat.le_of_ble_eq_true rfl)) dX1_worthToThrow_10 ⟨Nat.zero_le _, Nat.zero_le _⟩) hP hS (fun H locs hP hS => ?_)
    subst hQe
    exact W.iret (v := nI (zE rt own oth)) hx hb hr (fun t ht hW => ⟨⟨_, (), rfl, rfl, trivial⟩, hS.F ht⟩) hS.2.2 dX1_worthToThrow_13

set_option maxHeartbeats 4000000 in
set_option maxRecDepth 100000 in
theorem c_X1_worthToThrow1 (l : Launch) (dC : Nat → ClassId) (dI : Nat → Nat → Nat) (cyI cyJ : ClassId) (tb : Nat) (ae at_ : Nat) (rh : Int32) (wf : Nat → Int32) (k : Nat) (hk : k ≤ 60) (htb : zTb k wf) (rt j : Nat) (hj : rt ≤ k) (hj2 : j ≤ 100) (hB : ∀ own oth mm : Nat, own < 15 → oth < 15 → mm ≤ 4 → Met l yX1_worthBehindThrow wsX1_worthBehindThrow ({ frames := 2 * j + 2, cells := 0, slots := 0, locals := 54 * j + 51 }) (zPc [.ref ae, .int (nI own), .int (nI oth), .int (nI mm), .int (nI (rt + j)), .int (nI rt)] (dC, dI) vwCl [(cyI, .int)] [(ae, .inr (0, [.ref at_, .int rh])), (at_, .inl (cyI, 13500, .inl wf))] (fun U => zX tb zF U U.heap)) (va_Qi (fun (r : Int32) (_ : Unit) => r = nI (zEB (zE (rt + j)) own oth mm)) (fun _ _ => True) zF) 0 0 zF) (own oth : Nat) (ho : own < 15) (ht9 : oth < 15) : Met l yX1_worthToThrow wsX1_worthToThrow ({ frames := 2 * (j + 1) + 1, cells := 0, slots := 0, locals := 54 * (j + 1) + 24 }) (zPc [.ref ae, .int (nI own), .int (nI oth), .int (nI (rt + (j + 1))), .int (nI rt)] (dC, dI) vwCl [(cyI, .int)] [(ae, .inr (0, [.ref at_, .int rh])), (at_, .inl (cyI, 13500, .inl wf))] (fun U => zX tb zF U U.heap)) (va_Qi (fun (r : Int32) (_ : Unit) => r = nI (zE (rt + (j + 1)) own oth)) (fun _ _ => True) zF) 0 0 zF := by
  refine Met.ofW (cc := cX1_worthToThrow) (maxL := 8) (ret := (some .int)) (by decide) rfl ?_
  intro p e s m args below meth c s₁ B hml hv
  obtain ⟨rfl, hP, hK, hX⟩ := hv
  have hx := B.exec
  have hb := B.bytes
  have hr := B.returns
  have hts := atoms_spec (ws := wsX1_worthToThrow) B.pre
  have hown : s.vm.findClass RX1 = some m.cls := findClass_of_methodNamed B.named
  have hlocks := B.notSynchronized
  have hl := lv_entry ([.ref ae, .int (nI own), .int (nI oth), .int (nI (rt + (j + 1))), .int (nI rt)]) (n := 8) (Nat.le_of_ble_eq_true rfl)
  rw [lg_entry_eq]
  generalize (lg_sl ([.ref ae, .int (nI own), .int (nI oth), .int (nI (rt + (j + 1))), .int (nI rt)]) ++ List.replicate (8 - (lg_sl ([.ref ae, .int (nI own), .int (nI oth), .int (nI (rt + (j + 1))), .int (nI rt)])).length) Slot.unset).toArray = ls at hl ⊢
  have hl : lv_has ls 8 [(0, .ref ae), (1, .int (nI own)), (2, .int (nI oth)), (3, .int (nI (rt + (j + 1)))), (4, .int (nI rt))] := hl
  have hS : va_S zF s.heap s.heap [] := va_S.rf
  generalize hQe : MQ below _ _ _ _ _ _ = Q
  refine lv_iload_n hx hb dX1_worthToThrow_0 rfl (lv_at hl 3 rfl) ?_
  refine lv_iload hx hb dX1_worthToThrow_1 (lv_at hl 4 rfl) ?_
  refine lv_icmp_gt (tgt := 14) hx hb dX1_worthToThrow_3 (by decide) (fun c_3 => ?_) (fun c_3 => ?_)
  · skip
    have c_3 : rt < (rt + (j + 1)) := (nI_ltI (a := rt) (b := rt + (j + 1)) (by omega) (by omega)).mp c_3
    have hfl : ∀ m, m ≤ 4 → (zEB (zE (rt + j)) own oth) m ≤ 1000000000 := fun m _ => zEB_le (zE_le _) _ _ _
    refine lv_lconst (v := 0) hx hb dX1_worthToThrow_14 (by decide) ?_
    refine lv_lstore (lv' := [(5, .long 0), (0, .ref ae), (1, .int (nI own)), (2, .int (nI oth)), (3, .int (nI (rt + (j + 1)))), (4, .int (nI rt))]) hx hb dX1_worthToThrow_15 hl (by decide) rfl (fun ls hl => ?_)
    refine lv_iconst (v := 0) hx hb dX1_worthToThrow_17 (by decide) ?_
    refine lv_istore (lv' := [(7, .int 0), (5, .long 0), (0, .ref ae), (1, .int (nI own)), (2, .int (nI oth)), (3, .int (nI (rt + (j + 1)))), (4, .int (nI rt))]) hx hb dX1_worthToThrow_18 hl (by decide) rfl (fun ls hl => ?_)
    have lp : ∀ (n9 : Nat) (i : Nat) (sv : Int64), i ≤ 5 → sv = lN (zsm (zEB (zE (rt + j)) own oth) i) → 5 - i < n9 → ∀ (H : Heap) (locs : List Loc), va_P (dC, dI) vwCl [(ae, .inr (0, [.ref at_, .int rh])), (at_, .inl (cyI, 13500, .inl wf))] H → va_S zF s.heap H locs → ∀ ls : Array Slot, lv_has ls 8 [(7, .int (nI i)), (5, .long sv), (0, .ref ae), (1, .int (nI own)), (2, .int (nI oth)), (3, .int (nI (rt + (j + 1)))), (4, .int (nI rt))] → W p l e (headSpec wsX1_worthToThrow ({ frames := 2 * (j + 1) + 1, cells := 0, slots := 0, locals := 54 * (j + 1) + 24 })).room s m ([.ref ae, .int (nI own), .int (nI oth), .int (nI (rt + (j + 1))), .int (nI rt)] : List Value).toArray below meth c H locs 0 0 Q (F0 m 20 ls []) := by
      intro n9
      induction n9 with
      | zero => intro i sv hi2 hsv hm9; exact absurd hm9 (Nat.not_lt_zero _)
      | succ n9 ih20 =>
        intro i sv hi2 hsv hm9 H locs hP hS ls hl
        refine lv_iload hx hb dX1_worthToThrow_20 (lv_at hl 0 rfl) ?_
        refine lv_iconst (v := 4) hx hb dX1_worthToThrow_22 (by decide) ?_
        refine lv_icmp_gt (tgt := 58) hx hb dX1_worthToThrow_23 (by decide) (fun c_23 => ?_) (fun c_23 => ?_)
        · skip
          have c_23 : 4 < i := (nI_ltI (a := 4) (b := i) (by omega) (by omega)).mp c_23
          refine lv_lload hx hb dX1_worthToThrow_58 (lv_at hl 1 rfl) ?_
          refine lv_ldc2 (v := 16) hx hb hown (hts (.constantLong RX1 50 (16)) (List.mem_of_getElem? (i := 1) rfl)) dX1_worthToThrow_60 ?_
          refine lv_ldiv hx hb dX1_worthToThrow_63 (by decide) ?_
          refine zz_l (y := lN (zsm (zEB (zE (rt + j)) own oth) 5 / 16)) (by rw [hsv, show i = 5 by omega]; exact zdiv16 (zsm_le hfl 5 (by omega))) ?_
          refine lv_l2i (v := (lN (zsm (zEB (zE (rt + j)) own oth) 5 / 16) : Int64).toInt32) hx hb dX1_worthToThrow_64 rfl ?_
          refine zz_i (y := nI (zsm (zEB (zE (rt + j)) own oth) 5 / 16)) (lN_i _) ?_
          subst hQe
          exact W.iret (v := nI (zsm (zEB (zE (rt + j)) own oth) 5 / 16)) hx hb hr (fun t ht hW => ⟨⟨_, (), rfl, rfl, trivial⟩, hS.F ht⟩) hS.2.2 dX1_worthToThrow_65
        · skip
          have c_23 : ¬ 4 < i := fun h9 => c_23 ((nI_ltI (a := 4) (b := i) (by omega) (by omega)).mpr h9)
          refine lv_lload hx hb dX1_worthToThrow_26 (lv_at hl 1 rfl) ?_
          refine lv_iload hx hb dX1_worthToThrow_28 (lv_at hl 0 rfl) ?_
          refine zro_i (va_runS (As := [.int (nI i)]) (rest := [.long sv]) ⟨hx, hb, hml, hown, hts⟩ (c_X0_timesIn16 l tb i (by omega)) (va_cwS 1 hts gX1_worthToThrow_X0_timesIn16 rfl rfl rfl (by decide +kernel) ⟨(show 0 + 1 ≤ 2 * (j + 1) + 1 by omega), (show 8 + (1 + 11) + 0 ≤ 54 * (j + 1) + 24 by omega)⟩) (zPx zB_X (zX_at hX hS zF_A)) rfl rfl hl.1 rfl (lv_room (Nat.le_of_ble_eq_true rfl)) dX1_worthToThrow_30 ⟨Nat.zero_le _, Nat.zero_le _⟩) hP hS (fun H locs hP hS => ?_)
          refine lv_i2l (v := (nI (ztm i) : Int32).toInt64) hx hb dX1_worthToThrow_33 rfl ?_
          refine zz_l (y := lN (ztm i)) (ztm_l i) ?_
          refine lv_aload_n hx hb dX1_worthToThrow_34 rfl (lv_at hl 2 rfl) ?_
          refine lv_iload_n hx hb dX1_worthToThrow_35 rfl (lv_at hl 3 rfl) ?_
          refine lv_iload_n hx hb dX1_worthToThrow_36 rfl (lv_at hl 4 rfl) ?_
          refine lv_iload hx hb dX1_worthToThrow_37 (lv_at hl 0 rfl) ?_
          refine lv_iload_n hx hb dX1_worthToThrow_39 rfl (lv_at hl 5 rfl) ?_
          refine lv_iconst (v := 1) hx hb dX1_worthToThrow_40 (by decide) ?_
          refine lv_isub hx hb dX1_worthToThrow_41 ?_
          refine zz_i (y := nI (rt + j)) (nI_pred (rt + j)) ?_
          refine lv_iload hx hb dX1_worthToThrow_42 (lv_at hl 6 rfl) ?_
          refine zro_i (va_runV (As := [.int (nI own), .int (nI oth), .int (nI i), .int (nI (rt + j)), .int (nI rt)]) (rest := [.long (lN (ztm i)), .long sv]) ⟨hx, hb, hml, hown, hts⟩ (hB own oth i (by omega) (by omega) (by omega)) (cwV 5 hts gX1_worthToThrow_X1_worthBehindThrow rfl rfl rfl (by decide +kernel) ⟨(show (2 * j + 2) + 1 ≤ 2 * (j + 1) + 1 by omega), (show 8 + (8 + 11) + (54 * j + 51) ≤ 54 * (j + 1) + 24 by omega)⟩) (zPc_V (ci := 0) (q0 := 0) zB_X hP hK rfl rfl [0, 1] rfl (zX_at hX hS zF_A)) rfl rfl hl.1 rfl (lv_room (Nat.le_of_ble_eq_true rfl)) dX1_worthToThrow_44 ⟨Nat.zero_le _, Nat.zero_le _⟩) hP hS (fun H locs hP hS => ?_)
          refine lv_i2l (v := (nI (zEB (zE (rt + j)) own oth i) : Int32).toInt64) hx hb dX1_worthToThrow_47 rfl ?_
          refine zz_l (y := lN ((zEB (zE (rt + j)) own oth) i)) (nI_lw (hfl i (by omega))) ?_
          refine lv_lmul hx hb dX1_worthToThrow_48 ?_
          refine lv_ladd hx hb dX1_worthToThrow_49 ?_
          refine zz_l (y := lN (zsm (zEB (zE (rt + j)) own oth) (i + 1))) (by rw [hsv]; exact zsm_s (zEB (zE (rt + j)) own oth) i) ?_
          refine lv_lstore (lv' := [(5, .long (lN (zsm (zEB (zE (rt + j)) own oth) (i + 1)))), (7, .int (nI i)), (0, .ref ae), (1, .int (nI own)), (2, .int (nI oth)), (3, .int (nI (rt + (j + 1)))), (4, .int (nI rt))]) hx hb dX1_worthToThrow_50 hl (by decide) rfl (fun ls hl => ?_)
          refine lv_iinc (v := nI (i + 1)) (lv' := [(7, .int (nI (i + 1))), (5, .long (lN (zsm (zEB (zE (rt + j)) own oth) (i + 1)))), (0, .ref ae), (1, .int (nI own)), (2, .int (nI oth)), (3, .int (nI (rt + (j + 1)))), (4, .int (nI rt))]) hx hb dX1_worthToThrow_52 hl (k := 1) rfl (nI_1 i) (by decide) rfl (fun ls hl => ?_)
          refine lv_goto (tgt := 20) hx hb dX1_worthToThrow_55 (by decide) ?_
          exact ih20 (i + 1) _ (by omega) rfl (by omega) _ _ hP hS _ (lv_sub hl [0, 1, 2, 3, 4, 5, 6] rfl)
    exact lp 6 0 0 (by omega) rfl (by omega) _ _ hP hS _ (lv_sub hl [0, 1, 2, 3, 4, 5, 6] rfl)
  · skip
    have c_3 : ¬ rt < (rt + (j + 1)) := fun h9 => c_3 ((nI_ltI (a := rt) (b := rt + (j + 1)) (by omega) (by omega)).mpr h9)
    exact absurd (by omega) c_3

theorem c_X1_worthToThrow (l : Launch) (dC : Nat → ClassId) (dI : Nat → Nat → Nat) (cyI cyJ : ClassId) (tb : Nat) (ae at_ : Nat) (rh : Int32) (wf : Nat → Int32) (k : Nat) (hk : k ≤ 60) (htb : zTb k wf) (rt : Nat) (hj : rt ≤ k) : ∀ j, j ≤ 100 → ∀ own oth : Nat, own < 15 → oth < 15 → Met l yX1_worthToThrow wsX1_worthToThrow ({ frames := 2 * j + 1, cells := 0, slots := 0, locals := 54 * j + 24 }) (zPc [.ref ae, .int (nI own), .int (nI oth), .int (nI (rt + j)), .int (nI rt)] (dC, dI) vwCl [(cyI, .int)] [(ae, .inr (0, [.ref at_, .int rh])), (at_, .inl (cyI, 13500, .inl wf))] (fun U => zX tb zF U U.heap)) (va_Qi (fun (r : Int32) (_ : Unit) => r = nI (zE (rt + j) own oth)) (fun _ _ => True) zF) 0 0 zF := by
  intro j
  induction j with
  | zero => intro _ own oth ho ht9; exact c_X1_worthToThrow0 l dC dI cyI cyJ tb ae at_ rh wf k hk htb rt hj own oth ho ht9
  | succ j ih => intro h9 own oth ho ht9; exact c_X1_worthToThrow1 l dC dI cyI cyJ tb ae at_ rh wf k hk htb rt j hj (by omega) (fun own oth mm ho ht9 hmm => c_X1_worthBehindThrow0 l dC dI cyI cyJ tb ae at_ rh wf k hk htb rt j hj (by omega) (ih (by omega)) own oth mm ho ht9 hmm) own oth ho ht9

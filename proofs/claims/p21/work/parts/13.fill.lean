/-! filling the table -/
theorem zh {D : va_G} {cl : List vw_C} {w : va_W} {H : Heap} {t : State} (ht : t.heap = H) (h : va_P D cl w H) : va_P D cl w t.heap := by rw [ht]; exact h
/-- row rn + 1 is filled up to c; the rows ahead of it stand -/
def zRw (rn c : Nat) (wf g : Nat → Int32) : Prop := (∀ q, q < rn * 225 → g q = wf q) ∧ ∀ q, q < c → g (rn * 225 + q) = nI (zE (rn + 1) (q / 15) (q % 15))
theorem zRw_0 (rn : Nat) (wf : Nat → Int32) : zRw rn 0 wf wf := ⟨fun _ _ => rfl, fun _ h => absurd h (Nat.not_lt_zero _)⟩
theorem zRw_s {rn c i j : Nat} {wf g : Nat → Int32} (h : zRw rn c wf g) (hc : c = i * 15 + j) (hj : j < 15) : zRw rn (c + 1) wf (upd g (rn * 225 + c) (nI (zE (rn + 1) i j))) := by
  refine ⟨fun q hq => ?_, fun q hq => ?_⟩
  · rw [pk_un (by omega)]; exact h.1 q hq
  · rcases Nat.lt_or_ge q c with h1 | h1
    · rw [pk_un (by omega)]; exact h.2 q h1
    · have e : q = c := by omega
      subst e
      rw [pk_us, show q / 15 = i by omega, show q % 15 = j by omega]
theorem zRw_t {rn c : Nat} {wf g : Nat → Int32} (h : zRw rn c wf g) (ht : zTb rn wf) : zTb rn g := by
  intro r h1 h2 own oth h3 h4
  rw [h.1 _ (by omega)]
  exact ht r h1 h2 own oth h3 h4
theorem zRw_e {rn : Nat} {wf g : Nat → Int32} (h : zRw rn 225 wf g) (ht : zTb rn wf) : zTb (rn + 1) g := by
  intro r h1 h2 own oth h3 h4
  rcases Nat.lt_or_ge rn r with h5 | h5
  · have e : r = rn + 1 := by omega
    subst e
    have := h.2 (own * 15 + oth) (by omega)
    rw [show (own * 15 + oth) / 15 = own by omega, show (own * 15 + oth) % 15 = oth by omega] at this
    rw [show (rn + 1 - 1) * 225 + own * 15 + oth = rn * 225 + (own * 15 + oth) by omega]
    exact this
  · exact zRw_t h ht r h1 (by omega) own oth h3 h4
theorem zmin60 {r : Nat} (h : r ≤ 60) : (if (60 : Int32) < nI r then 60 else nI r) = nI r := if_neg (fun h9 => absurd ((nI_ltI (a := 60) (b := r) (by omega) (by omega)).mp h9) (by omega))
set_option maxHeartbeats 4000000 in
set_option maxRecDepth 100000 in
theorem c_X1_fillRow (l : Launch) (dC : Nat → ClassId) (dI : Nat → Nat → Nat) (cyI cyJ : ClassId) (tb : Nat) (ae at_ : Nat) (rh : Int32) (wf : Nat → Int32) (rn : Nat) (hrn : rn < 60) (htb : zTb rn wf) (hnd : [ae, at_].Nodup) : Met l yX1_fillRow wsX1_fillRow ({ frames := 4, cells := 0, slots := 0, locals := 105 }) (zPc [.ref ae, .int (nI (rn + 1))] (dC, dI) vwCl [(cyI, .int)] [(ae, .inr (0, [.ref at_, .int rh])), (at_, .inl (cyI, 13500, .inl wf))] (fun U => zX tb (zA [ae, at_]) U U.heap)) (va_Qv (fun u => zTb (rn + 1) u) (fun (u : Nat → Int32) t => va_P (dC, dI) vwCl ([(ae, .inr (0, [.ref at_, .int rh])), (at_, .inl (cyI, 13500, .inl u))]) t.heap) (zA [ae, at_])) 0 0 (zA [ae, at_]) := by
  refine Met.ofW (cc := cX1_fillRow) (maxL := 5) (ret := none) (by decide) rfl ?_
  intro p e s m args below meth c s₁ B hml hv
  obtain ⟨rfl, hP, hK, hX⟩ := hv
  have hx := B.exec
  have hb := B.bytes
  have hr := B.returns
  have hts := atoms_spec (ws := wsX1_fillRow) B.pre
  have hown : s.vm.findClass RX1 = some m.cls := findClass_of_methodNamed B.named
  have hlocks := B.notSynchronized
  have hinX1 : ∀ w ∈ wsX10, w ∈ wsX1_fillRow := by decide +kernel
  have hl := lv_entry ([.ref ae, .int (nI (rn + 1))]) (n := 5) (Nat.le_of_ble_eq_true rfl)
  rw [lg_entry_eq]
  generalize (lg_sl ([.ref ae, .int (nI (rn + 1))]) ++ List.replicate (5 - (lg_sl ([.ref ae, .int (nI (rn + 1))])).length) Slot.unset).toArray = ls at hl ⊢
  have hl : lv_has ls 5 [(0, .ref ae), (1, .int (nI (rn + 1)))] := hl
  have hS : va_S (zA [ae, at_]) s.heap s.heap [] := va_S.rf
  have hDD : zD (zA [ae, at_]) [ae, at_] := ⟨hnd, fun _ h => h⟩
  generalize hQe : MQ below _ _ _ _ _ _ = Q
  refine lv_iload_n hx hb dX1_fillRow_0 rfl (lv_at hl 1 rfl) ?_
  refine lv_iconst (v := 1) hx hb dX1_fillRow_1 (by decide) ?_
  refine lv_isub hx hb dX1_fillRow_2 ?_
  refine zz_i (y := nI rn) (nI_pred rn) ?_
  refine lv_sipush (v := 225) hx hb dX1_fillRow_3 (by decide) ?_
  refine lv_imul hx hb dX1_fillRow_6 ?_
  refine zz_i (y := nI (rn * 225)) (pk_mul rn 225) ?_
  refine lv_istore_n (lv' := [(2, .int (nI (rn * 225))), (0, .ref ae), (1, .int (nI (rn + 1)))]) hx hb dX1_fillRow_7 rfl hl (by decide) rfl (fun ls hl => ?_)
  refine lv_iconst (v := 0) hx hb dX1_fillRow_8 (by decide) ?_
  refine lv_istore_n (lv' := [(3, .int 0), (2, .int (nI (rn * 225))), (0, .ref ae), (1, .int (nI (rn + 1)))]) hx hb dX1_fillRow_9 rfl hl (by decide) rfl (fun ls hl => ?_)
  have lpo : ∀ (n9 : Nat) (i : Nat) (q : Nat) (g : Nat → Int32), i ≤ 15 → q = i * 15 → zRw rn q wf g → 15 - i < n9 → ∀ (H : Heap) (locs : List Loc), va_P (dC, dI) vwCl [(ae, .inr (0, [.ref at_, .int rh])), (at_, .inl (cyI, 13500, .inl g))] H → va_S (zA [ae, at_]) s.heap H locs → ∀ ls : Array Slot, lv_has ls 5 [(3, .int (nI i)), (2, .int (nI (rn * 225 + q))), (0, .ref ae), (1, .int (nI (rn + 1)))] → W p l e (headSpec wsX1_fillRow ({ frames := 4, cells := 0, slots := 0, locals := 105 })).room s m ([.ref ae, .int (nI (rn + 1))] : List Value).toArray below meth c H locs 0 0 Q (F0 m 10 ls []) := by
    intro n9
    induction n9 with
    | zero => intro i q g hi2 hq hg hm9; exact absurd hm9 (Nat.not_lt_zero _)
    | succ n9 ih10 =>
      intro i q g hi2 hq hg hm9 H locs hP hS ls hl
      refine lv_iload_n hx hb dX1_fillRow_10 rfl (lv_at hl 0 rfl) ?_
      refine lv_bipush (v := 15) hx hb dX1_fillRow_11 (by decide) ?_
      refine lv_icmp_ge (tgt := 71) hx hb dX1_fillRow_13 (by decide) (fun c_13 => ?_) (fun c_13 => ?_)
      · skip
        have c_13 : 15 ≤ i := (nI_leI (a := 15) (b := i) (by omega) (by omega)).mp c_13
        subst hQe
        exact W.vret hx hb hr (fun t ht hW => ⟨⟨g, rfl, (by rw [show q = 225 by omega] at hg; exact zRw_e hg htb), zh ht hP⟩, hS.F ht⟩) hS.2.2 dX1_fillRow_71
      · skip
        have c_13 : ¬ 15 ≤ i := fun h9 => c_13 ((nI_leI (a := 15) (b := i) (by omega) (by omega)).mpr h9)
        refine lv_iconst (v := 0) hx hb dX1_fillRow_16 (by decide) ?_
        refine lv_istore (lv' := [(4, .int 0), (3, .int (nI i)), (2, .int (nI (rn * 225 + q))), (0, .ref ae), (1, .int (nI (rn + 1)))]) hx hb dX1_fillRow_17 hl (by decide) rfl (fun ls hl => ?_)
        have lpi : ∀ (n9 : Nat) (j : Nat) (q : Nat) (g : Nat → Int32), j ≤ 15 → q = i * 15 + j → zRw rn q wf g → 15 - j < n9 → ∀ (H : Heap) (locs : List Loc), va_P (dC, dI) vwCl [(ae, .inr (0, [.ref at_, .int rh])), (at_, .inl (cyI, 13500, .inl g))] H → va_S (zA [ae, at_]) s.heap H locs → ∀ ls : Array Slot, lv_has ls 5 [(4, .int (nI j)), (3, .int (nI i)), (2, .int (nI (rn * 225 + q))), (0, .ref ae), (1, .int (nI (rn + 1)))] → W p l e (headSpec wsX1_fillRow ({ frames := 4, cells := 0, slots := 0, locals := 105 })).room s m ([.ref ae, .int (nI (rn + 1))] : List Value).toArray below meth c H locs 0 0 Q (F0 m 19 ls []) := by
          intro n9
          induction n9 with
          | zero => intro j q g hj2 hq hg hm9; exact absurd hm9 (Nat.not_lt_zero _)
          | succ n9 ih19 =>
            intro j q g hj2 hq hg hm9 H locs hP hS ls hl
            refine lv_iload hx hb dX1_fillRow_19 (lv_at hl 0 rfl) ?_
            refine lv_bipush (v := 15) hx hb dX1_fillRow_21 (by decide) ?_
            refine lv_icmp_ge (tgt := 65) hx hb dX1_fillRow_23 (by decide) (fun c_23 => ?_) (fun c_23 => ?_)
            · skip
              have c_23 : 15 ≤ j := (nI_leI (a := 15) (b := j) (by omega) (by omega)).mp c_23
              refine lv_iinc (v := nI (i + 1)) (lv' := [(3, .int (nI (i + 1))), (4, .int (nI j)), (2, .int (nI (rn * 225 + q))), (0, .ref ae), (1, .int (nI (rn + 1)))]) hx hb dX1_fillRow_65 hl (k := 1) rfl (nI_1 i) (by decide) rfl (fun ls hl => ?_)
              refine lv_goto (tgt := 10) hx hb dX1_fillRow_68 (by decide) ?_
              exact ih10 (i + 1) _ _ (by omega) (by omega) hg (by omega) _ _ hP hS _ (lv_sub hl [0, 2, 3, 4] rfl)
            · skip
              have c_23 : ¬ 15 ≤ j := fun h9 => c_23 ((nI_leI (a := 15) (b := j) (by omega) (by omega)).mpr h9)
              refine lv_iload_n hx hb dX1_fillRow_26 rfl (lv_at hl 2 rfl) ?_
              refine lv_if_lt (tgt := 56) hx hb dX1_fillRow_27 (by decide) (fun c_27 => ?_) (fun c_27 => ?_)
              · skip
                have c_27 : (rn * 225 + q) < 0 := (nI_ltI (a := rn * 225 + q) (b := 0) (by omega) (by omega)).mp c_27
                exact absurd c_27 (Nat.not_lt_zero _)
              · skip
                have c_27 : ¬ (rn * 225 + q) < 0 := fun h9 => c_27 ((nI_ltI (a := rn * 225 + q) (b := 0) (by omega) (by omega)).mpr h9)
                refine lv_iload_n hx hb dX1_fillRow_30 rfl (lv_at hl 2 rfl) ?_
                refine lv_aload_n hx hb dX1_fillRow_31 rfl (lv_at hl 3 rfl) ?_
                refine va_get (D := (dC, dI)) (ci := 0) (v := .ref at_) (C := RX1) (T := TX1) (N := 2) hx hb hts hinX1 hown hK hP 0 rfl rfl 0 (by decide) (hts (.fieldLink RX1 13 "RoyalUrTable$Endings" "worths" "[I") (List.mem_of_getElem? (i := 1) rfl)) (fun _ h9 => h9) rfl dX1_fillRow_32 ?_
                refine va_alen (v := 13500) hx hb hK hP 1 0 rfl rfl rfl dX1_fillRow_35 ?_
                refine lv_icmp_ge (tgt := 56) hx hb dX1_fillRow_36 (by decide) (fun c_36 => ?_) (fun c_36 => ?_)
                · skip
                  have c_36 : 13500 ≤ (rn * 225 + q) := (nI_leI (a := 13500) (b := rn * 225 + q) (by omega) (by omega)).mp c_36
                  exact absurd c_36 (by omega)
                · skip
                  have c_36 : ¬ 13500 ≤ (rn * 225 + q) := fun h9 => c_36 ((nI_leI (a := 13500) (b := rn * 225 + q) (by omega) (by omega)).mpr h9)
                  refine lv_aload_n hx hb dX1_fillRow_39 rfl (lv_at hl 3 rfl) ?_
                  refine va_get (D := (dC, dI)) (ci := 0) (v := .ref at_) (C := RX1) (T := TX1) (N := 2) hx hb hts hinX1 hown hK hP 0 rfl rfl 0 (by decide) (hts (.fieldLink RX1 13 "RoyalUrTable$Endings" "worths" "[I") (List.mem_of_getElem? (i := 1) rfl)) (fun _ h9 => h9) rfl dX1_fillRow_40 ?_
                  refine lv_iload_n hx hb dX1_fillRow_43 rfl (lv_at hl 2 rfl) ?_
                  refine lv_aload_n hx hb dX1_fillRow_44 rfl (lv_at hl 3 rfl) ?_
                  refine lv_iload_n hx hb dX1_fillRow_45 rfl (lv_at hl 1 rfl) ?_
                  refine lv_iload hx hb dX1_fillRow_46 (lv_at hl 0 rfl) ?_
                  refine lv_iload_n hx hb dX1_fillRow_48 rfl (lv_at hl 4 rfl) ?_
                  refine lv_iload_n hx hb dX1_fillRow_49 rfl (lv_at hl 4 rfl) ?_
                  refine lv_iconst (v := 1) hx hb dX1_fillRow_50 (by decide) ?_
                  refine lv_isub hx hb dX1_fillRow_51 ?_
                  refine zz_i (y := nI rn) (nI_pred rn) ?_
                  refine zro_i (va_runV (As := [.int (nI i), .int (nI j), .int (nI (rn + 1)), .int (nI rn)]) (rest := [.int (nI (rn * 225 + q)), .ref at_]) ⟨hx, hb, hml, hown, hts⟩ (c_X1_worthToThrow l dC dI cyI cyJ tb ae at_ rh g rn (by omega) (zRw_t hg htb) rn (by omega) 1 (by omega) i j (by omega) (by omega)) (cwV 4 hts gX1_fillRow_X1_worthToThrow rfl rfl rfl (by decide +kernel) ⟨Nat.le_of_ble_eq_true rfl, Nat.le_of_ble_eq_true rfl⟩) (zPc_V (ci := 0) (q0 := 0) zB_X hP hK rfl rfl [0, 1] rfl (zX_at hX hS zF_A)) rfl rfl hl.1 rfl (lv_room (Nat.le_of_ble_eq_true rfl)) dX1_fillRow_52 ⟨Nat.zero_le _, Nat.zero_le _⟩) hP hS (fun H locs hP hS => ?_)
                  refine zi_iast hx hb hK hP hDD hS 1 0 rfl rfl (j := rn * 225 + q) rfl (by omega) (by decide) dX1_fillRow_55 (fun H locs hP hS => ?_)
                  have hP : va_P (dC, dI) vwCl [(ae, .inr (0, [.ref at_, .int rh])), (at_, .inl (cyI, 13500, .inl (upd g (rn * 225 + q) (nI (zE (rn + 1) i j)))))] H := hP
                  refine lv_iinc (v := nI (rn * 225 + q + 1)) (lv' := [(2, .int (nI (rn * 225 + q + 1))), (4, .int (nI j)), (3, .int (nI i)), (0, .ref ae), (1, .int (nI (rn + 1)))]) hx hb dX1_fillRow_56 hl (k := 2) rfl (nI_1 (rn * 225 + q)) (by decide) rfl (fun ls hl => ?_)
                  refine lv_iinc (v := nI (j + 1)) (lv' := [(4, .int (nI (j + 1))), (2, .int (nI (rn * 225 + q + 1))), (3, .int (nI i)), (0, .ref ae), (1, .int (nI (rn + 1)))]) hx hb dX1_fillRow_59 hl (k := 1) rfl (nI_1 j) (by decide) rfl (fun ls hl => ?_)
                  refine lv_goto (tgt := 19) hx hb dX1_fillRow_62 (by decide) ?_
                  exact ih19 (j + 1) (q + 1) _ (by omega) (by omega) (zRw_s hg hq (by omega)) (by omega) _ _ hP hS _ (lv_sub hl [0, 2, 1, 3, 4] rfl)
        exact lpi 16 0 q g (by omega) (by omega) hg (by omega) _ _ hP hS _ (lv_sub hl [0, 1, 2, 3, 4] rfl)
  exact lpo 16 0 0 wf (by omega) (by omega) (zRw_0 rn wf) (by omega) _ _ hP hS _ (lv_sub hl [0, 1, 2, 3] rfl)

set_option maxHeartbeats 4000000 in
set_option maxRecDepth 100000 in
theorem c_X1_fillUpTo (l : Launch) (dC : Nat → ClassId) (dI : Nat → Nat → Nat) (cyI cyJ : ClassId) (tb : Nat) (ae at_ : Nat) (wf : Nat → Int32) (k rr : Nat) (hk : k ≤ 60) (hr9 : rr ≤ 60) (htb : zTb k wf) (hnd : [ae, at_].Nodup) : Met l yX1_fillUpTo wsX1_fillUpTo ({ frames := 5, cells := 0, slots := 0, locals := 129 }) (zPc [.ref ae, .int (nI rr)] (dC, dI) vwCl [(cyI, .int)] [(ae, .inr (0, [.ref at_, .int (nI k)])), (at_, .inl (cyI, 13500, .inl wf))] (fun U => zX tb (zA [ae, at_]) U U.heap)) (va_Qv (fun u => zTb u.1 u.2 ∧ rr ≤ u.1 ∧ u.1 ≤ 60) (fun (u : Nat × (Nat → Int32)) t => va_P (dC, dI) vwCl ([(ae, .inr (0, [.ref at_, .int (nI u.1)])), (at_, .inl (cyI, 13500, .inl u.2))]) t.heap) (zA [ae, at_])) 0 0 (zA [ae, at_]) := by
  refine Met.ofW (cc := cX1_fillUpTo) (maxL := 4) (ret := none) (by decide) rfl ?_
  intro p e s m args below meth c s₁ B hml hv
  obtain ⟨rfl, hP, hK, hX⟩ := hv
  have hx := B.exec
  have hb := B.bytes
  have hr := B.returns
  have hts := atoms_spec (ws := wsX1_fillUpTo) B.pre
  have hown : s.vm.findClass RX1 = some m.cls := findClass_of_methodNamed B.named
  have hlocks := B.notSynchronized
  have hinX1 : ∀ w ∈ wsX10, w ∈ wsX1_fillUpTo := by decide +kernel
  have hl := lv_entry ([.ref ae, .int (nI rr)]) (n := 4) (Nat.le_of_ble_eq_true rfl)
  rw [lg_entry_eq]
  generalize (lg_sl ([.ref ae, .int (nI rr)]) ++ List.replicate (4 - (lg_sl ([.ref ae, .int (nI rr)])).length) Slot.unset).toArray = ls at hl ⊢
  have hl : lv_has ls 4 [(0, .ref ae), (1, .int (nI rr))] := hl
  have hS : va_S (zA [ae, at_]) s.heap s.heap [] := va_S.rf
  have hDD : zD (zA [ae, at_]) [ae, at_] := ⟨hnd, fun _ h => h⟩
  generalize hQe : MQ below _ _ _ _ _ _ = Q
  refine lv_iload_n hx hb dX1_fillUpTo_0 rfl (lv_at hl 1 rfl) ?_
  refine lv_bipush (v := 60) hx hb dX1_fillUpTo_1 (by decide) ?_
  refine va_mmin hx hb (hml.trans hl.1.symm) hown (hts (.methodLink RX1 17 Lib.Math.min.name) (List.mem_of_getElem? (i := 1) rfl)) (hts (.static Lib.Math.min.name) (List.mem_of_getElem? (i := 2) rfl)) (hts (.initialized "java/lang/Math") (List.mem_of_getElem? (i := 3) rfl)) (hts (.code Lib.Math.min.name Lib.Math.min.code 2 (some .int)) (List.mem_of_getElem? (i := 4) rfl)) (Nat.le_of_ble_eq_true rfl) (Nat.le_of_ble_eq_true rfl) (Nat.zero_le _) (Nat.zero_le _) dX1_fillUpTo_3 ?_
  refine zz_i (y := nI rr) (zmin60 hr9) ?_
  refine lv_istore_n (lv' := [(2, .int (nI rr)), (0, .ref ae), (1, .int (nI rr))]) hx hb dX1_fillUpTo_6 rfl hl (by decide) rfl (fun ls hl => ?_)
  refine lv_aload_n hx hb dX1_fillUpTo_7 rfl (lv_at hl 1 rfl) ?_
  refine va_get (D := (dC, dI)) (ci := 0) (v := .int (nI k)) (C := RX1) (T := TX1) (N := 2) hx hb hts hinX1 hown hK hP 0 rfl rfl 1 (by decide) (hts (.fieldLink RX1 23 "RoyalUrTable$Endings" "roundsHeld" "I") (List.mem_of_getElem? (i := 5) rfl)) (fun _ h9 => h9) rfl dX1_fillUpTo_8 ?_
  refine lv_iconst (v := 1) hx hb dX1_fillUpTo_11 (by decide) ?_
  refine lv_iadd hx hb dX1_fillUpTo_12 ?_
  refine zz_i (y := nI (k + 1)) (nI_add k 1) ?_
  refine lv_istore_n (lv' := [(3, .int (nI (k + 1))), (2, .int (nI rr)), (0, .ref ae), (1, .int (nI rr))]) hx hb dX1_fillUpTo_13 rfl hl (by decide) rfl (fun ls hl => ?_)
  have lp : ∀ (n9 : Nat) (q : Nat) (g : Nat → Int32), q ≤ 60 → zTb q g → 60 - q < n9 → ∀ (H : Heap) (locs : List Loc), va_P (dC, dI) vwCl [(ae, .inr (0, [.ref at_, .int (nI q)])), (at_, .inl (cyI, 13500, .inl g))] H → va_S (zA [ae, at_]) s.heap H locs → ∀ ls : Array Slot, lv_has ls 4 [(3, .int (nI (q + 1))), (2, .int (nI rr)), (0, .ref ae), (1, .int (nI rr))] → W p l e (headSpec wsX1_fillUpTo ({ frames := 5, cells := 0, slots := 0, locals := 129 })).room s m ([.ref ae, .int (nI rr)] : List Value).toArray below meth c H locs 0 0 Q (F0 m 14 ls []) := by
    intro n9
    induction n9 with
    | zero => intro q g hq6 hq hm9; exact absurd hm9 (Nat.not_lt_zero _)
    | succ n9 ih14 =>
      intro q g hq6 hq hm9 H locs hP hS ls hl
      refine lv_iload_n hx hb dX1_fillUpTo_14 rfl (lv_at hl 0 rfl) ?_
      refine lv_iload_n hx hb dX1_fillUpTo_15 rfl (lv_at hl 1 rfl) ?_
      refine lv_icmp_gt (tgt := 35) hx hb dX1_fillUpTo_16 (by decide) (fun c_16 => ?_) (fun c_16 => ?_)
      · skip
        have c_16 : rr < (q + 1) := (nI_ltI (a := rr) (b := q + 1) (by omega) (by omega)).mp c_16
        subst hQe
        exact W.vret hx hb hr (fun t ht hW => ⟨⟨(q, g), rfl, ⟨hq, (by omega), hq6⟩, zh ht hP⟩, hS.F ht⟩) hS.2.2 dX1_fillUpTo_35
      · skip
        have c_16 : ¬ rr < (q + 1) := fun h9 => c_16 ((nI_ltI (a := rr) (b := q + 1) (by omega) (by omega)).mpr h9)
        refine lv_aload_n hx hb dX1_fillUpTo_19 rfl (lv_at hl 2 rfl) ?_
        refine lv_iload_n hx hb dX1_fillUpTo_20 rfl (lv_at hl 0 rfl) ?_
        refine zrw_v (w1 := fun u => [(ae, .inr (0, [.ref at_, .int (nI q)])), (at_, .inl (cyI, 13500, .inl u))]) (al := [ae, at_]) (va_runV (As := [.int (nI (q + 1))]) (rest := []) ⟨hx, hb, hml, hown, hts⟩ (c_X1_fillRow l dC dI cyI cyJ tb ae at_ (nI q) g q (by omega) hq hDD.1) (cwV 1 hts gX1_fillUpTo_X1_fillRow rfl rfl rfl (by decide +kernel) ⟨Nat.le_of_ble_eq_true rfl, Nat.le_of_ble_eq_true rfl⟩) (zPc_V (ci := 0) (q0 := 0) zB_X hP hK rfl rfl [0, 1] rfl (zX_at hX hS (fun _ h => h))) rfl rfl hl.1 rfl (lv_room (Nat.le_of_ble_eq_true rfl)) dX1_fillUpTo_21 ⟨Nat.zero_le _, Nat.zero_le _⟩) hP hDD hS [0, 1] rfl (fun _ => rfl) (fun u_21 H locs hw_21 hP hS => ?_)
        have hP : va_P (dC, dI) vwCl [(ae, .inr (0, [.ref at_, .int (nI q)])), (at_, .inl (cyI, 13500, .inl u_21))] H := hP
        refine lv_aload_n hx hb dX1_fillUpTo_24 rfl (lv_at hl 2 rfl) ?_
        refine lv_iload_n hx hb dX1_fillUpTo_25 rfl (lv_at hl 0 rfl) ?_
        refine va_put (D := (dC, dI)) (ci := 0) (v := .int (nI (q + 1))) (ty := .int) (C := RX1) (T := TX1) (N := 2) hx hb hts hinX1 tyX1 tyX1_ok nmX1 hown hK hP (hDD.va rfl) hS 0 rfl rfl 1 (by decide) (hts (.fieldLink RX1 23 "RoyalUrTable$Endings" "roundsHeld" "I") (List.mem_of_getElem? (i := 5) rfl)) (fun _ h9 => h9) rfl (by decide +kernel) rfl rfl (Nat.le_of_ble_eq_true rfl) dX1_fillUpTo_26 (fun H locs hP hD9 hS => ?_)
        have hP : va_P (dC, dI) vwCl [(ae, .inr (0, [.ref at_, .int (nI (q + 1))])), (at_, .inl (cyI, 13500, .inl u_21))] H := hP
        refine lv_iinc (v := nI (q + 1 + 1)) (lv' := [(3, .int (nI (q + 1 + 1))), (2, .int (nI rr)), (0, .ref ae), (1, .int (nI rr))]) hx hb dX1_fillUpTo_29 hl (k := 0) rfl (nI_1 (q + 1)) (by decide) rfl (fun ls hl => ?_)
        refine lv_goto (tgt := 14) hx hb dX1_fillUpTo_32 (by decide) ?_
        exact ih14 (q + 1) _ (by omega) hw_21 (by omega) _ _ hP hS _ (lv_sub hl [0, 1, 2, 3] rfl)
  exact lp 61 k wf (by omega) htb (by omega) _ _ hP hS _ (lv_sub hl [0, 1, 2, 3] rfl)

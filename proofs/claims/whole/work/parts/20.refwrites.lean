/-! the reference writes: endings' tables, rows, the heights -/
theorem zc_f1 {p : Nat} {t : Bool} (h : 15 < p) : zcen p false t = false := by
  rw [zcen, if_pos (by omega)]; exact beq_eq_false_iff_ne.mpr (by omega)
theorem zc_f2 {p oth : Nat} (h : p = 8) (h2 : oth = 8) : zcen p false (oth == p) = false := by
  rw [h, h2]; rfl
theorem zc_t {p oth : Nat} (h : p ≤ 15) (h2 : ¬ (p = 8 ∧ oth = 8)) : zcen p false (oth == p) = true := by
  unfold zcen
  split
  · exact beq_iff_eq.mpr (by omega)
  · by_cases h3 : p = 8
    · rw [show (oth == p) = false from beq_eq_false_iff_ne.mpr (fun e => h2 ⟨h3, by omega⟩)]; rfl
    · rw [show (p == 8) = false from beq_eq_false_iff_ne.mpr h3]; simp
/-- a table of the endings of r rounds, by its places -/
def zFq (r c : Nat) (ff : Nat → Int32) : Prop := ∀ q, q < c → ff q = nI (zE r (q / 15) (q % 15))
theorem zFq.ft {r : Nat} {ff : Nat → Int32} (h : zFq r 225 ff) : zFt r ff := by
  intro a b ha hb
  rw [h (15 * a + b) (by omega), show (15 * a + b) / 15 = a by omega, show (15 * a + b) % 15 = b by omega]
theorem zFq_s {r c : Nat} {ff : Nat → Int32} {x : Int32} (h : zFq r c ff) (hx : x = nI (zE r (c / 15) (c % 15))) : zFq r (c + 1) (upd ff c x) := by
  intro q hq
  rcases Nat.lt_or_ge q c with h1 | h1
  · rw [pk_un (by omega)]; exact h q h1
  · rw [show q = c by omega, pk_us, hx]
theorem zFq_0 (r : Nat) (ff : Nat → Int32) : zFq r 0 ff := fun _ h => absurd h (Nat.not_lt_zero _)
theorem zupd_lt {f : Nat → Int32} {i q : Nat} {x : Int32} (h : q < i) : upd f i x q = f q := pk_un (by omega)
theorem zkeep {f g : Nat → Int32} {n ix : Nat} {x : Int32} (h : ∀ q, q < n → g q = f q) (hn : n ≤ ix) : ∀ q, q < n → upd g ix x q = f q := fun q hq => by rw [zupd_lt (by omega)]; exact h q hq
theorem zcp_s {g v : Nat → Int32} {a i : Nat} {x : Int32} (h : ∀ j, j < i → g (a + j) = v j) (hx : x = v i) : ∀ j, j < i + 1 → upd g (a + i) x (a + j) = v j := by
  intro j hj
  rcases Nat.lt_or_ge j i with h1 | h1
  · rw [zupd_lt (by omega)]; exact h j h1
  · rw [show j = i by omega, pk_us]; exact hx
theorem zcp_0 {g v : Nat → Int32} {i : Nat} {x : Int32} (h : ∀ j, j < i → g j = v j) (hx : x = v i) : ∀ j, j < i + 1 → upd g i x j = v j := by
  intro j hj
  rcases Nat.lt_or_ge j i with h1 | h1
  · rw [zupd_lt (by omega)]; exact h j h1
  · rw [show j = i by omega, pk_us]; exact hx
theorem zupd_gt {f : Nat → Int32} {i q : Nat} {x : Int32} (h : i < q) : upd f i x q = f q := pk_un (by omega)
/-- the worth for the side of a height -/
def zIts (s9 s8 w9 : Int32) : Int32 := if s9 = s8 then w9 else 1000000000 - w9
def zMx (b w9 : Int32) : Int32 := if b < w9 then w9 else b
set_option maxHeartbeats 4000000 in
set_option maxRecDepth 100000 in
theorem c_X6_behindThrow (l : Launch) (dC : Nat → ClassId) (dI : Nat → Nat → Nat) (cyI cyJ : ClassId) (k : Nat) (bx bl ba bt bg be bf bw bs bm bn bb bu bh : Nat) (thr sI tI wI cI : Int32) (ef : Nat → Int32) (r9 : Nat) (hef : zFt r9 ef) (own oth mm : Nat) (ho : own < 15) (ht9 : oth < 15) (hmm : mm ≤ 4) : Met l yX6_behindThrow wsX6_behindThrow ({ frames := 2, cells := 0, slots := 0, locals := 42 }) (zPc [.ref bx, .int (nI own), .int (nI oth), .int (nI mm)] (dC, dI) vwCl [(cyI, .int), (cyJ, .long)] [(bx, .inr (3, [.int thr, .int (nI k), .int sI, .int tI, .int wI, .int cI, .ref bl, .ref ba, .ref bt, .ref bg, .ref be, .ref bf, .ref bw, .ref bs, .ref bm, .ref bn, .ref bb, .ref bu, .ref bh])), (be, .inl (cyI, 225, .inl ef))] (fun _ => True)) (va_Qi (fun (r : Int32) (_ : Unit) => r = nI (zEB (zE r9) own oth mm)) (fun _ _ => True) zF) 0 0 zF := by
  refine Met.ofW (cc := cX6_behindThrow) (maxL := 6) (ret := (some .int)) (by decide) rfl ?_
  intro p e s m args below meth c s₁ B hml hv
  obtain ⟨rfl, hP, hK, hX⟩ := hv
  have hx := B.exec
  have hb := B.bytes
  have hr := B.returns
  have hts := atoms_spec (ws := wsX6_behindThrow) B.pre
  have hown : s.vm.findClass RX6 = some m.cls := findClass_of_methodNamed B.named
  have hlocks := B.notSynchronized
  have hinX6 : ∀ w ∈ wsX60, w ∈ wsX6_behindThrow := by decide +kernel
  have hl := lv_entry ([.ref bx, .int (nI own), .int (nI oth), .int (nI mm)]) (n := 6) (Nat.le_of_ble_eq_true rfl)
  rw [lg_entry_eq]
  generalize (lg_sl ([.ref bx, .int (nI own), .int (nI oth), .int (nI mm)]) ++ List.replicate (6 - (lg_sl ([.ref bx, .int (nI own), .int (nI oth), .int (nI mm)])).length) Slot.unset).toArray = ls at hl ⊢
  have hl : lv_has ls 6 [(0, .ref bx), (1, .int (nI own)), (2, .int (nI oth)), (3, .int (nI mm))] := hl
  have hS : va_S zF s.heap s.heap [] := va_S.rf
  refine lv_iload_n hx hb dX6_behindThrow_0 rfl (lv_at hl 1 rfl) ?_
  refine lv_iload_n hx hb dX6_behindThrow_1 rfl (lv_at hl 3 rfl) ?_
  refine lv_iadd hx hb dX6_behindThrow_2 ?_
  refine zz_i (y := nI (own + mm)) (nI_add own mm) ?_
  refine lv_istore (lv' := [(4, .int (nI (own + mm))), (0, .ref bx), (1, .int (nI own)), (2, .int (nI oth)), (3, .int (nI mm))]) hx hb dX6_behindThrow_3 hl (by decide) rfl (fun ls hl => ?_)
  refine lv_iload_n hx hb dX6_behindThrow_5 rfl (lv_at hl 4 rfl) ?_
  refine lv_if_eq (tgt := 29) hx hb dX6_behindThrow_6 (by decide) (fun c_6 => ?_) (fun c_6 => ?_)
  · skip
    have c_6 : mm = 0 := (nI_eq (a := mm) (b := 0) (by omega) (by omega)).mp c_6
    refine lv_ldc (v := 1000000000) hx hb hown (hts (.constant RX6 71 (1000000000)) (List.mem_of_getElem? (i := 1) rfl)) dX6_behindThrow_29 ?_
    refine lv_aload_n hx hb dX6_behindThrow_31 rfl (lv_at hl 1 rfl) ?_
    refine va_get (D := (dC, dI)) (ci := 3) (v := .ref be) (C := RX6) (T := TX6) (N := 19) hx hb hts hinX6 hown hK hP 0 rfl rfl 10 (by decide) (hts (.fieldLink RX6 29 "RoyalUrTableModel" "elder" "[I") (List.mem_of_getElem? (i := 2) rfl)) (fun _ h9 => h9) rfl dX6_behindThrow_32 ?_
    refine lv_bipush (v := 15) hx hb dX6_behindThrow_35 (by decide) ?_
    refine lv_iload_n hx hb dX6_behindThrow_37 rfl (lv_at hl 3 rfl) ?_
    refine lv_imul hx hb dX6_behindThrow_38 ?_
    refine zz_i (y := nI (15 * oth)) (pk_mul 15 oth) ?_
    refine lv_iload_n hx hb dX6_behindThrow_39 rfl (lv_at hl 2 rfl) ?_
    refine lv_iadd hx hb dX6_behindThrow_40 ?_
    refine zz_i (y := nI (15 * oth + own)) (nI_add (15 * oth) own) ?_
    refine zi_iald hx hb hK hP 1 0 rfl rfl (j := 15 * oth + own) rfl (by omega) (by decide) dX6_behindThrow_41 ?_
    have hle_41 := zE_le r9 oth own
    refine zz_i (y := nI (zE r9 oth own)) (hef oth own (by omega) (by omega)) ?_
    refine lv_isub hx hb dX6_behindThrow_42 ?_
    refine zz_i (y := nI (1000000000 - (zE r9 oth own))) (pk_sub (a := 1000000000) (b := zE r9 oth own) (by omega)) ?_
    exact W.iret (v := nI (1000000000 - (zE r9 oth own))) hx hb hr (fun t ht hW => ⟨⟨_, (), rfl, (congrArg nI (by rw [zEB, if_pos c_6])), trivial⟩, hS.F ht⟩) hS.2.2 dX6_behindThrow_43
  · skip
    have c_6 : ¬ mm = 0 := fun h9 => c_6 ((nI_eq (a := mm) (b := 0) (by omega) (by omega)).mpr h9)
    refine lv_iload hx hb dX6_behindThrow_9 (lv_at hl 0 rfl) ?_
    refine lv_bipush (v := 15) hx hb dX6_behindThrow_11 (by decide) ?_
    refine lv_icmp_gt (tgt := 29) hx hb dX6_behindThrow_13 (by decide) (fun c_13 => ?_) (fun c_13 => ?_)
    · skip
      have c_13 : 15 < (own + mm) := (nI_ltI (a := 15) (b := own + mm) (by omega) (by omega)).mp c_13
      refine lv_ldc (v := 1000000000) hx hb hown (hts (.constant RX6 71 (1000000000)) (List.mem_of_getElem? (i := 1) rfl)) dX6_behindThrow_29 ?_
      refine lv_aload_n hx hb dX6_behindThrow_31 rfl (lv_at hl 1 rfl) ?_
      refine va_get (D := (dC, dI)) (ci := 3) (v := .ref be) (C := RX6) (T := TX6) (N := 19) hx hb hts hinX6 hown hK hP 0 rfl rfl 10 (by decide) (hts (.fieldLink RX6 29 "RoyalUrTableModel" "elder" "[I") (List.mem_of_getElem? (i := 2) rfl)) (fun _ h9 => h9) rfl dX6_behindThrow_32 ?_
      refine lv_bipush (v := 15) hx hb dX6_behindThrow_35 (by decide) ?_
      refine lv_iload_n hx hb dX6_behindThrow_37 rfl (lv_at hl 3 rfl) ?_
      refine lv_imul hx hb dX6_behindThrow_38 ?_
      refine zz_i (y := nI (15 * oth)) (pk_mul 15 oth) ?_
      refine lv_iload_n hx hb dX6_behindThrow_39 rfl (lv_at hl 2 rfl) ?_
      refine lv_iadd hx hb dX6_behindThrow_40 ?_
      refine zz_i (y := nI (15 * oth + own)) (nI_add (15 * oth) own) ?_
      refine zi_iald hx hb hK hP 1 0 rfl rfl (j := 15 * oth + own) rfl (by omega) (by decide) dX6_behindThrow_41 ?_
      have hle_41 := zE_le r9 oth own
      refine zz_i (y := nI (zE r9 oth own)) (hef oth own (by omega) (by omega)) ?_
      refine lv_isub hx hb dX6_behindThrow_42 ?_
      refine zz_i (y := nI (1000000000 - (zE r9 oth own))) (pk_sub (a := 1000000000) (b := zE r9 oth own) (by omega)) ?_
      exact W.iret (v := nI (1000000000 - (zE r9 oth own))) hx hb hr (fun t ht hW => ⟨⟨_, (), rfl, (congrArg nI (by rw [zEB, if_neg c_6, if_pos (zc_f1 c_13)])), trivial⟩, hS.F ht⟩) hS.2.2 dX6_behindThrow_43
    · skip
      have c_13 : ¬ 15 < (own + mm) := fun h9 => c_13 ((nI_ltI (a := 15) (b := own + mm) (by omega) (by omega)).mpr h9)
      refine lv_iload hx hb dX6_behindThrow_16 (lv_at hl 0 rfl) ?_
      refine lv_bipush (v := 8) hx hb dX6_behindThrow_18 (by decide) ?_
      refine lv_icmp_ne (tgt := 44) hx hb dX6_behindThrow_20 (by decide) (fun c_20 => ?_) (fun c_20 => ?_)
      · skip
        have c_20 : ¬ (own + mm) = 8 := fun h9 => c_20 ((nI_eq (a := own + mm) (b := 8) (by omega) (by omega)).mpr h9)
        refine lv_iload hx hb dX6_behindThrow_44 (lv_at hl 0 rfl) ?_
        refine lv_bipush (v := 15) hx hb dX6_behindThrow_46 (by decide) ?_
        refine lv_icmp_ne (tgt := 54) hx hb dX6_behindThrow_48 (by decide) (fun c_48 => ?_) (fun c_48 => ?_)
        · skip
          have c_48 : ¬ (own + mm) = 15 := fun h9 => c_48 ((nI_eq (a := own + mm) (b := 15) (by omega) (by omega)).mpr h9)
          refine lv_iload hx hb dX6_behindThrow_54 (lv_at hl 0 rfl) ?_
          refine zro_i (va_runS (As := [.int (nI (own + mm))]) (rest := []) ⟨hx, hb, hml, hown, hts⟩ (c_X6_isShared l (own + mm) (by omega)) (va_cwS 1 hts gX6_behindThrow_X6_isShared rfl rfl rfl (by decide +kernel) ⟨Nat.le_of_ble_eq_true rfl, Nat.le_of_ble_eq_true rfl⟩) zPu rfl rfl hl.1 rfl (lv_room (Nat.le_of_ble_eq_true rfl)) dX6_behindThrow_56 ⟨Nat.zero_le _, Nat.zero_le _⟩) hP hS (fun H locs hP hS => ?_)
          refine lv_if_eq (tgt := 72) hx hb dX6_behindThrow_59 (by decide) (fun c_59 => ?_) (fun c_59 => ?_)
          · skip
            have c_59 := bI_0.mp c_59
            refine lv_iload_n hx hb dX6_behindThrow_72 rfl (lv_at hl 3 rfl) ?_
            refine lv_istore (lv' := [(5, .int (nI oth)), (4, .int (nI (own + mm))), (0, .ref bx), (1, .int (nI own)), (2, .int (nI oth)), (3, .int (nI mm))]) hx hb dX6_behindThrow_73 hl (by decide) rfl (fun ls hl => ?_)
            refine lv_iload hx hb dX6_behindThrow_75 (lv_at hl 1 rfl) ?_
            refine zro_i (va_runS (As := [.int (nI (own + mm))]) (rest := []) ⟨hx, hb, hml, hown, hts⟩ (c_X6_isRosette l (own + mm) (by omega)) (va_cwS 1 hts gX6_behindThrow_X6_isRosette rfl rfl rfl (by decide +kernel) ⟨Nat.le_of_ble_eq_true rfl, Nat.le_of_ble_eq_true rfl⟩) zPu rfl rfl hl.1 rfl (lv_room (Nat.le_of_ble_eq_true rfl)) dX6_behindThrow_77 ⟨Nat.zero_le _, Nat.zero_le _⟩) hP hS (fun H locs hP hS => ?_)
            refine lv_if_eq (tgt := 99) hx hb dX6_behindThrow_80 (by decide) (fun c_80 => ?_) (fun c_80 => ?_)
            · skip
              have c_80 := bI_0.mp c_80
              refine lv_ldc (v := 1000000000) hx hb hown (hts (.constant RX6 71 (1000000000)) (List.mem_of_getElem? (i := 1) rfl)) dX6_behindThrow_99 ?_
              refine lv_aload_n hx hb dX6_behindThrow_101 rfl (lv_at hl 2 rfl) ?_
              refine va_get (D := (dC, dI)) (ci := 3) (v := .ref be) (C := RX6) (T := TX6) (N := 19) hx hb hts hinX6 hown hK hP 0 rfl rfl 10 (by decide) (hts (.fieldLink RX6 29 "RoyalUrTableModel" "elder" "[I") (List.mem_of_getElem? (i := 2) rfl)) (fun _ h9 => h9) rfl dX6_behindThrow_102 ?_
              refine lv_bipush (v := 15) hx hb dX6_behindThrow_105 (by decide) ?_
              refine lv_iload hx hb dX6_behindThrow_107 (lv_at hl 0 rfl) ?_
              refine lv_imul hx hb dX6_behindThrow_109 ?_
              refine zz_i (y := nI (15 * oth)) (pk_mul 15 oth) ?_
              refine lv_iload hx hb dX6_behindThrow_110 (lv_at hl 1 rfl) ?_
              refine lv_iadd hx hb dX6_behindThrow_112 ?_
              refine zz_i (y := nI (15 * oth + (own + mm))) (nI_add (15 * oth) (own + mm)) ?_
              refine zi_iald hx hb hK hP 1 0 rfl rfl (j := 15 * oth + (own + mm)) rfl (by omega) (by decide) dX6_behindThrow_113 ?_
              have hle_113 := zE_le r9 oth (own + mm)
              refine zz_i (y := nI (zE r9 oth (own + mm))) (hef oth (own + mm) (by omega) (by omega)) ?_
              refine lv_isub hx hb dX6_behindThrow_114 ?_
              refine zz_i (y := nI (1000000000 - (zE r9 oth (own + mm)))) (pk_sub (a := 1000000000) (b := zE r9 oth (own + mm)) (by omega)) ?_
              exact W.iret (v := nI (1000000000 - (zE r9 oth (own + mm)))) hx hb hr (fun t ht hW => ⟨⟨_, (), rfl, (congrArg nI (by rw [zEB, if_neg c_6, if_neg (show ¬ zcen (own + mm) false (oth == own + mm) = false by rw [zc_t (by omega) (fun h => c_20 h.1)]; decide), if_neg c_48, if_neg (by rw [c_80]; decide), if_neg (fun h => by rw [h.2] at c_59; cases c_59)])), trivial⟩, hS.F ht⟩) hS.2.2 dX6_behindThrow_115
            · skip
              have c_80 := bI_1.mp c_80
              refine lv_aload_n hx hb dX6_behindThrow_83 rfl (lv_at hl 2 rfl) ?_
              refine va_get (D := (dC, dI)) (ci := 3) (v := .ref be) (C := RX6) (T := TX6) (N := 19) hx hb hts hinX6 hown hK hP 0 rfl rfl 10 (by decide) (hts (.fieldLink RX6 29 "RoyalUrTableModel" "elder" "[I") (List.mem_of_getElem? (i := 2) rfl)) (fun _ h9 => h9) rfl dX6_behindThrow_84 ?_
              refine lv_bipush (v := 15) hx hb dX6_behindThrow_87 (by decide) ?_
              refine lv_iload hx hb dX6_behindThrow_89 (lv_at hl 1 rfl) ?_
              refine lv_imul hx hb dX6_behindThrow_91 ?_
              refine zz_i (y := nI (15 * (own + mm))) (pk_mul 15 (own + mm)) ?_
              refine lv_iload hx hb dX6_behindThrow_92 (lv_at hl 0 rfl) ?_
              refine lv_iadd hx hb dX6_behindThrow_94 ?_
              refine zz_i (y := nI (15 * (own + mm) + oth)) (nI_add (15 * (own + mm)) oth) ?_
              refine zi_iald hx hb hK hP 1 0 rfl rfl (j := 15 * (own + mm) + oth) rfl (by omega) (by decide) dX6_behindThrow_95 ?_
              have hle_95 := zE_le r9 (own + mm) oth
              refine zz_i (y := nI (zE r9 (own + mm) oth)) (hef (own + mm) oth (by omega) (by omega)) ?_
              refine lv_goto (tgt := 115) hx hb dX6_behindThrow_96 (by decide) ?_
              exact W.iret (v := nI (zE r9 (own + mm) oth)) hx hb hr (fun t ht hW => ⟨⟨_, (), rfl, (congrArg nI (by rw [zEB, if_neg c_6, if_neg (show ¬ zcen (own + mm) false (oth == own + mm) = false by rw [zc_t (by omega) (fun h => c_20 h.1)]; decide), if_neg c_48, if_pos c_80, if_neg (fun h => by rw [h.2] at c_59; cases c_59)])), trivial⟩, hS.F ht⟩) hS.2.2 dX6_behindThrow_115
          · skip
            have c_59 := bI_1.mp c_59
            refine lv_iload_n hx hb dX6_behindThrow_62 rfl (lv_at hl 3 rfl) ?_
            refine lv_iload hx hb dX6_behindThrow_63 (lv_at hl 0 rfl) ?_
            refine lv_icmp_ne (tgt := 72) hx hb dX6_behindThrow_65 (by decide) (fun c_65 => ?_) (fun c_65 => ?_)
            · skip
              have c_65 : ¬ oth = (own + mm) := fun h9 => c_65 ((nI_eq (a := oth) (b := own + mm) (by omega) (by omega)).mpr h9)
              refine lv_iload_n hx hb dX6_behindThrow_72 rfl (lv_at hl 3 rfl) ?_
              refine lv_istore (lv' := [(5, .int (nI oth)), (4, .int (nI (own + mm))), (0, .ref bx), (1, .int (nI own)), (2, .int (nI oth)), (3, .int (nI mm))]) hx hb dX6_behindThrow_73 hl (by decide) rfl (fun ls hl => ?_)
              refine lv_iload hx hb dX6_behindThrow_75 (lv_at hl 1 rfl) ?_
              refine zro_i (va_runS (As := [.int (nI (own + mm))]) (rest := []) ⟨hx, hb, hml, hown, hts⟩ (c_X6_isRosette l (own + mm) (by omega)) (va_cwS 1 hts gX6_behindThrow_X6_isRosette rfl rfl rfl (by decide +kernel) ⟨Nat.le_of_ble_eq_true rfl, Nat.le_of_ble_eq_true rfl⟩) zPu rfl rfl hl.1 rfl (lv_room (Nat.le_of_ble_eq_true rfl)) dX6_behindThrow_77 ⟨Nat.zero_le _, Nat.zero_le _⟩) hP hS (fun H locs hP hS => ?_)
              refine lv_if_eq (tgt := 99) hx hb dX6_behindThrow_80 (by decide) (fun c_80 => ?_) (fun c_80 => ?_)
              · skip
                have c_80 := bI_0.mp c_80
                refine lv_ldc (v := 1000000000) hx hb hown (hts (.constant RX6 71 (1000000000)) (List.mem_of_getElem? (i := 1) rfl)) dX6_behindThrow_99 ?_
                refine lv_aload_n hx hb dX6_behindThrow_101 rfl (lv_at hl 2 rfl) ?_
                refine va_get (D := (dC, dI)) (ci := 3) (v := .ref be) (C := RX6) (T := TX6) (N := 19) hx hb hts hinX6 hown hK hP 0 rfl rfl 10 (by decide) (hts (.fieldLink RX6 29 "RoyalUrTableModel" "elder" "[I") (List.mem_of_getElem? (i := 2) rfl)) (fun _ h9 => h9) rfl dX6_behindThrow_102 ?_
                refine lv_bipush (v := 15) hx hb dX6_behindThrow_105 (by decide) ?_
                refine lv_iload hx hb dX6_behindThrow_107 (lv_at hl 0 rfl) ?_
                refine lv_imul hx hb dX6_behindThrow_109 ?_
                refine zz_i (y := nI (15 * oth)) (pk_mul 15 oth) ?_
                refine lv_iload hx hb dX6_behindThrow_110 (lv_at hl 1 rfl) ?_
                refine lv_iadd hx hb dX6_behindThrow_112 ?_
                refine zz_i (y := nI (15 * oth + (own + mm))) (nI_add (15 * oth) (own + mm)) ?_
                refine zi_iald hx hb hK hP 1 0 rfl rfl (j := 15 * oth + (own + mm)) rfl (by omega) (by decide) dX6_behindThrow_113 ?_
                have hle_113 := zE_le r9 oth (own + mm)
                refine zz_i (y := nI (zE r9 oth (own + mm))) (hef oth (own + mm) (by omega) (by omega)) ?_
                refine lv_isub hx hb dX6_behindThrow_114 ?_
                refine zz_i (y := nI (1000000000 - (zE r9 oth (own + mm)))) (pk_sub (a := 1000000000) (b := zE r9 oth (own + mm)) (by omega)) ?_
                exact W.iret (v := nI (1000000000 - (zE r9 oth (own + mm)))) hx hb hr (fun t ht hW => ⟨⟨_, (), rfl, (congrArg nI (by rw [zEB, if_neg c_6, if_neg (show ¬ zcen (own + mm) false (oth == own + mm) = false by rw [zc_t (by omega) (fun h => c_20 h.1)]; decide), if_neg c_48, if_neg (by rw [c_80]; decide), if_neg (fun h => c_65 h.1)])), trivial⟩, hS.F ht⟩) hS.2.2 dX6_behindThrow_115
              · skip
                have c_80 := bI_1.mp c_80
                refine lv_aload_n hx hb dX6_behindThrow_83 rfl (lv_at hl 2 rfl) ?_
                refine va_get (D := (dC, dI)) (ci := 3) (v := .ref be) (C := RX6) (T := TX6) (N := 19) hx hb hts hinX6 hown hK hP 0 rfl rfl 10 (by decide) (hts (.fieldLink RX6 29 "RoyalUrTableModel" "elder" "[I") (List.mem_of_getElem? (i := 2) rfl)) (fun _ h9 => h9) rfl dX6_behindThrow_84 ?_
                refine lv_bipush (v := 15) hx hb dX6_behindThrow_87 (by decide) ?_
                refine lv_iload hx hb dX6_behindThrow_89 (lv_at hl 1 rfl) ?_
                refine lv_imul hx hb dX6_behindThrow_91 ?_
                refine zz_i (y := nI (15 * (own + mm))) (pk_mul 15 (own + mm)) ?_
                refine lv_iload hx hb dX6_behindThrow_92 (lv_at hl 0 rfl) ?_
                refine lv_iadd hx hb dX6_behindThrow_94 ?_
                refine zz_i (y := nI (15 * (own + mm) + oth)) (nI_add (15 * (own + mm)) oth) ?_
                refine zi_iald hx hb hK hP 1 0 rfl rfl (j := 15 * (own + mm) + oth) rfl (by omega) (by decide) dX6_behindThrow_95 ?_
                have hle_95 := zE_le r9 (own + mm) oth
                refine zz_i (y := nI (zE r9 (own + mm) oth)) (hef (own + mm) oth (by omega) (by omega)) ?_
                refine lv_goto (tgt := 115) hx hb dX6_behindThrow_96 (by decide) ?_
                exact W.iret (v := nI (zE r9 (own + mm) oth)) hx hb hr (fun t ht hW => ⟨⟨_, (), rfl, (congrArg nI (by rw [zEB, if_neg c_6, if_neg (show ¬ zcen (own + mm) false (oth == own + mm) = false by rw [zc_t (by omega) (fun h => c_20 h.1)]; decide), if_neg c_48, if_pos c_80, if_neg (fun h => c_65 h.1)])), trivial⟩, hS.F ht⟩) hS.2.2 dX6_behindThrow_115
            · skip
              have c_65 : oth = (own + mm) := (nI_eq (a := oth) (b := own + mm) (by omega) (by omega)).mp c_65
              refine lv_iconst (v := 0) hx hb dX6_behindThrow_68 (by decide) ?_
              refine lv_goto (tgt := 73) hx hb dX6_behindThrow_69 (by decide) ?_
              refine lv_istore (lv' := [(5, .int 0), (4, .int (nI (own + mm))), (0, .ref bx), (1, .int (nI own)), (2, .int (nI oth)), (3, .int (nI mm))]) hx hb dX6_behindThrow_73 hl (by decide) rfl (fun ls hl => ?_)
              refine lv_iload hx hb dX6_behindThrow_75 (lv_at hl 1 rfl) ?_
              refine zro_i (va_runS (As := [.int (nI (own + mm))]) (rest := []) ⟨hx, hb, hml, hown, hts⟩ (c_X6_isRosette l (own + mm) (by omega)) (va_cwS 1 hts gX6_behindThrow_X6_isRosette rfl rfl rfl (by decide +kernel) ⟨Nat.le_of_ble_eq_true rfl, Nat.le_of_ble_eq_true rfl⟩) zPu rfl rfl hl.1 rfl (lv_room (Nat.le_of_ble_eq_true rfl)) dX6_behindThrow_77 ⟨Nat.zero_le _, Nat.zero_le _⟩) hP hS (fun H locs hP hS => ?_)
              refine lv_if_eq (tgt := 99) hx hb dX6_behindThrow_80 (by decide) (fun c_80 => ?_) (fun c_80 => ?_)
              · skip
                have c_80 := bI_0.mp c_80
                refine lv_ldc (v := 1000000000) hx hb hown (hts (.constant RX6 71 (1000000000)) (List.mem_of_getElem? (i := 1) rfl)) dX6_behindThrow_99 ?_
                refine lv_aload_n hx hb dX6_behindThrow_101 rfl (lv_at hl 2 rfl) ?_
                refine va_get (D := (dC, dI)) (ci := 3) (v := .ref be) (C := RX6) (T := TX6) (N := 19) hx hb hts hinX6 hown hK hP 0 rfl rfl 10 (by decide) (hts (.fieldLink RX6 29 "RoyalUrTableModel" "elder" "[I") (List.mem_of_getElem? (i := 2) rfl)) (fun _ h9 => h9) rfl dX6_behindThrow_102 ?_
                refine lv_bipush (v := 15) hx hb dX6_behindThrow_105 (by decide) ?_
                refine lv_iload hx hb dX6_behindThrow_107 (lv_at hl 0 rfl) ?_
                refine lv_imul hx hb dX6_behindThrow_109 ?_
                refine zz_i (y := nI (15 * 0)) (pk_mul 15 0) ?_
                refine lv_iload hx hb dX6_behindThrow_110 (lv_at hl 1 rfl) ?_
                refine lv_iadd hx hb dX6_behindThrow_112 ?_
                refine zz_i (y := nI (15 * 0 + (own + mm))) (nI_add (15 * 0) (own + mm)) ?_
                refine zi_iald hx hb hK hP 1 0 rfl rfl (j := 15 * 0 + (own + mm)) rfl (by omega) (by decide) dX6_behindThrow_113 ?_
                have hle_113 := zE_le r9 0 (own + mm)
                refine zz_i (y := nI (zE r9 0 (own + mm))) (hef 0 (own + mm) (by omega) (by omega)) ?_
                refine lv_isub hx hb dX6_behindThrow_114 ?_
                refine zz_i (y := nI (1000000000 - (zE r9 0 (own + mm)))) (pk_sub (a := 1000000000) (b := zE r9 0 (own + mm)) (by omega)) ?_
                exact W.iret (v := nI (1000000000 - (zE r9 0 (own + mm)))) hx hb hr (fun t ht hW => ⟨⟨_, (), rfl, (congrArg nI (by rw [zEB, if_neg c_6, if_neg (show ¬ zcen (own + mm) false (oth == own + mm) = false by rw [zc_t (by omega) (fun h => c_20 h.1)]; decide), if_neg c_48, if_neg (by rw [c_80]; decide), if_pos ⟨c_65, c_59⟩])), trivial⟩, hS.F ht⟩) hS.2.2 dX6_behindThrow_115
              · skip
                have c_80 := bI_1.mp c_80
                refine lv_aload_n hx hb dX6_behindThrow_83 rfl (lv_at hl 2 rfl) ?_
                refine va_get (D := (dC, dI)) (ci := 3) (v := .ref be) (C := RX6) (T := TX6) (N := 19) hx hb hts hinX6 hown hK hP 0 rfl rfl 10 (by decide) (hts (.fieldLink RX6 29 "RoyalUrTableModel" "elder" "[I") (List.mem_of_getElem? (i := 2) rfl)) (fun _ h9 => h9) rfl dX6_behindThrow_84 ?_
                refine lv_bipush (v := 15) hx hb dX6_behindThrow_87 (by decide) ?_
                refine lv_iload hx hb dX6_behindThrow_89 (lv_at hl 1 rfl) ?_
                refine lv_imul hx hb dX6_behindThrow_91 ?_
                refine zz_i (y := nI (15 * (own + mm))) (pk_mul 15 (own + mm)) ?_
                refine lv_iload hx hb dX6_behindThrow_92 (lv_at hl 0 rfl) ?_
                refine lv_iadd hx hb dX6_behindThrow_94 ?_
                refine zz_i (y := nI (15 * (own + mm) + 0)) (nI_add (15 * (own + mm)) 0) ?_
                refine zi_iald hx hb hK hP 1 0 rfl rfl (j := 15 * (own + mm) + 0) rfl (by omega) (by decide) dX6_behindThrow_95 ?_
                have hle_95 := zE_le r9 (own + mm) 0
                refine zz_i (y := nI (zE r9 (own + mm) 0)) (hef (own + mm) 0 (by omega) (by omega)) ?_
                refine lv_goto (tgt := 115) hx hb dX6_behindThrow_96 (by decide) ?_
                exact W.iret (v := nI (zE r9 (own + mm) 0)) hx hb hr (fun t ht hW => ⟨⟨_, (), rfl, (congrArg nI (by rw [zEB, if_neg c_6, if_neg (show ¬ zcen (own + mm) false (oth == own + mm) = false by rw [zc_t (by omega) (fun h => c_20 h.1)]; decide), if_neg c_48, if_pos c_80, if_pos ⟨c_65, c_59⟩])), trivial⟩, hS.F ht⟩) hS.2.2 dX6_behindThrow_115
        · skip
          have c_48 : (own + mm) = 15 := (nI_eq (a := own + mm) (b := 15) (by omega) (by omega)).mp c_48
          refine lv_ldc (v := 1000000000) hx hb hown (hts (.constant RX6 71 (1000000000)) (List.mem_of_getElem? (i := 1) rfl)) dX6_behindThrow_51 ?_
          exact W.iret (v := 1000000000) hx hb hr (fun t ht hW => ⟨⟨_, (), rfl, (congrArg nI (by rw [zEB, if_neg c_6, if_neg (show ¬ zcen (own + mm) false (oth == own + mm) = false by rw [zc_t (by omega) (fun h => c_20 h.1)]; decide), if_pos c_48])), trivial⟩, hS.F ht⟩) hS.2.2 dX6_behindThrow_53
      · skip
        have c_20 : (own + mm) = 8 := (nI_eq (a := own + mm) (b := 8) (by omega) (by omega)).mp c_20
        refine lv_iload_n hx hb dX6_behindThrow_23 rfl (lv_at hl 3 rfl) ?_
        refine lv_bipush (v := 8) hx hb dX6_behindThrow_24 (by decide) ?_
        refine lv_icmp_ne (tgt := 44) hx hb dX6_behindThrow_26 (by decide) (fun c_26 => ?_) (fun c_26 => ?_)
        · skip
          have c_26 : ¬ oth = 8 := fun h9 => c_26 ((nI_eq (a := oth) (b := 8) (by omega) (by omega)).mpr h9)
          refine lv_iload hx hb dX6_behindThrow_44 (lv_at hl 0 rfl) ?_
          refine lv_bipush (v := 15) hx hb dX6_behindThrow_46 (by decide) ?_
          refine lv_icmp_ne (tgt := 54) hx hb dX6_behindThrow_48 (by decide) (fun c_48 => ?_) (fun c_48 => ?_)
          · skip
            have c_48 : ¬ (own + mm) = 15 := fun h9 => c_48 ((nI_eq (a := own + mm) (b := 15) (by omega) (by omega)).mpr h9)
            refine lv_iload hx hb dX6_behindThrow_54 (lv_at hl 0 rfl) ?_
            refine zro_i (va_runS (As := [.int (nI (own + mm))]) (rest := []) ⟨hx, hb, hml, hown, hts⟩ (c_X6_isShared l (own + mm) (by omega)) (va_cwS 1 hts gX6_behindThrow_X6_isShared rfl rfl rfl (by decide +kernel) ⟨Nat.le_of_ble_eq_true rfl, Nat.le_of_ble_eq_true rfl⟩) zPu rfl rfl hl.1 rfl (lv_room (Nat.le_of_ble_eq_true rfl)) dX6_behindThrow_56 ⟨Nat.zero_le _, Nat.zero_le _⟩) hP hS (fun H locs hP hS => ?_)
            refine lv_if_eq (tgt := 72) hx hb dX6_behindThrow_59 (by decide) (fun c_59 => ?_) (fun c_59 => ?_)
            · skip
              have c_59 := bI_0.mp c_59
              refine lv_iload_n hx hb dX6_behindThrow_72 rfl (lv_at hl 3 rfl) ?_
              refine lv_istore (lv' := [(5, .int (nI oth)), (4, .int (nI (own + mm))), (0, .ref bx), (1, .int (nI own)), (2, .int (nI oth)), (3, .int (nI mm))]) hx hb dX6_behindThrow_73 hl (by decide) rfl (fun ls hl => ?_)
              refine lv_iload hx hb dX6_behindThrow_75 (lv_at hl 1 rfl) ?_
              refine zro_i (va_runS (As := [.int (nI (own + mm))]) (rest := []) ⟨hx, hb, hml, hown, hts⟩ (c_X6_isRosette l (own + mm) (by omega)) (va_cwS 1 hts gX6_behindThrow_X6_isRosette rfl rfl rfl (by decide +kernel) ⟨Nat.le_of_ble_eq_true rfl, Nat.le_of_ble_eq_true rfl⟩) zPu rfl rfl hl.1 rfl (lv_room (Nat.le_of_ble_eq_true rfl)) dX6_behindThrow_77 ⟨Nat.zero_le _, Nat.zero_le _⟩) hP hS (fun H locs hP hS => ?_)
              refine lv_if_eq (tgt := 99) hx hb dX6_behindThrow_80 (by decide) (fun c_80 => ?_) (fun c_80 => ?_)
              · skip
                have c_80 := bI_0.mp c_80
                refine lv_ldc (v := 1000000000) hx hb hown (hts (.constant RX6 71 (1000000000)) (List.mem_of_getElem? (i := 1) rfl)) dX6_behindThrow_99 ?_
                refine lv_aload_n hx hb dX6_behindThrow_101 rfl (lv_at hl 2 rfl) ?_
                refine va_get (D := (dC, dI)) (ci := 3) (v := .ref be) (C := RX6) (T := TX6) (N := 19) hx hb hts hinX6 hown hK hP 0 rfl rfl 10 (by decide) (hts (.fieldLink RX6 29 "RoyalUrTableModel" "elder" "[I") (List.mem_of_getElem? (i := 2) rfl)) (fun _ h9 => h9) rfl dX6_behindThrow_102 ?_
                refine lv_bipush (v := 15) hx hb dX6_behindThrow_105 (by decide) ?_
                refine lv_iload hx hb dX6_behindThrow_107 (lv_at hl 0 rfl) ?_
                refine lv_imul hx hb dX6_behindThrow_109 ?_
                refine zz_i (y := nI (15 * oth)) (pk_mul 15 oth) ?_
                refine lv_iload hx hb dX6_behindThrow_110 (lv_at hl 1 rfl) ?_
                refine lv_iadd hx hb dX6_behindThrow_112 ?_
                refine zz_i (y := nI (15 * oth + (own + mm))) (nI_add (15 * oth) (own + mm)) ?_
                refine zi_iald hx hb hK hP 1 0 rfl rfl (j := 15 * oth + (own + mm)) rfl (by omega) (by decide) dX6_behindThrow_113 ?_
                have hle_113 := zE_le r9 oth (own + mm)
                refine zz_i (y := nI (zE r9 oth (own + mm))) (hef oth (own + mm) (by omega) (by omega)) ?_
                refine lv_isub hx hb dX6_behindThrow_114 ?_
                refine zz_i (y := nI (1000000000 - (zE r9 oth (own + mm)))) (pk_sub (a := 1000000000) (b := zE r9 oth (own + mm)) (by omega)) ?_
                exact W.iret (v := nI (1000000000 - (zE r9 oth (own + mm)))) hx hb hr (fun t ht hW => ⟨⟨_, (), rfl, (congrArg nI (by rw [zEB, if_neg c_6, if_neg (show ¬ zcen (own + mm) false (oth == own + mm) = false by rw [zc_t (by omega) (fun h => c_26 h.2)]; decide), if_neg c_48, if_neg (by rw [c_80]; decide), if_neg (fun h => by rw [h.2] at c_59; cases c_59)])), trivial⟩, hS.F ht⟩) hS.2.2 dX6_behindThrow_115
              · skip
                have c_80 := bI_1.mp c_80
                refine lv_aload_n hx hb dX6_behindThrow_83 rfl (lv_at hl 2 rfl) ?_
                refine va_get (D := (dC, dI)) (ci := 3) (v := .ref be) (C := RX6) (T := TX6) (N := 19) hx hb hts hinX6 hown hK hP 0 rfl rfl 10 (by decide) (hts (.fieldLink RX6 29 "RoyalUrTableModel" "elder" "[I") (List.mem_of_getElem? (i := 2) rfl)) (fun _ h9 => h9) rfl dX6_behindThrow_84 ?_
                refine lv_bipush (v := 15) hx hb dX6_behindThrow_87 (by decide) ?_
                refine lv_iload hx hb dX6_behindThrow_89 (lv_at hl 1 rfl) ?_
                refine lv_imul hx hb dX6_behindThrow_91 ?_
                refine zz_i (y := nI (15 * (own + mm))) (pk_mul 15 (own + mm)) ?_
                refine lv_iload hx hb dX6_behindThrow_92 (lv_at hl 0 rfl) ?_
                refine lv_iadd hx hb dX6_behindThrow_94 ?_
                refine zz_i (y := nI (15 * (own + mm) + oth)) (nI_add (15 * (own + mm)) oth) ?_
                refine zi_iald hx hb hK hP 1 0 rfl rfl (j := 15 * (own + mm) + oth) rfl (by omega) (by decide) dX6_behindThrow_95 ?_
                have hle_95 := zE_le r9 (own + mm) oth
                refine zz_i (y := nI (zE r9 (own + mm) oth)) (hef (own + mm) oth (by omega) (by omega)) ?_
                refine lv_goto (tgt := 115) hx hb dX6_behindThrow_96 (by decide) ?_
                exact W.iret (v := nI (zE r9 (own + mm) oth)) hx hb hr (fun t ht hW => ⟨⟨_, (), rfl, (congrArg nI (by rw [zEB, if_neg c_6, if_neg (show ¬ zcen (own + mm) false (oth == own + mm) = false by rw [zc_t (by omega) (fun h => c_26 h.2)]; decide), if_neg c_48, if_pos c_80, if_neg (fun h => by rw [h.2] at c_59; cases c_59)])), trivial⟩, hS.F ht⟩) hS.2.2 dX6_behindThrow_115
            · skip
              have c_59 := bI_1.mp c_59
              refine lv_iload_n hx hb dX6_behindThrow_62 rfl (lv_at hl 3 rfl) ?_
              refine lv_iload hx hb dX6_behindThrow_63 (lv_at hl 0 rfl) ?_
              refine lv_icmp_ne (tgt := 72) hx hb dX6_behindThrow_65 (by decide) (fun c_65 => ?_) (fun c_65 => ?_)
              · skip
                have c_65 : ¬ oth = (own + mm) := fun h9 => c_65 ((nI_eq (a := oth) (b := own + mm) (by omega) (by omega)).mpr h9)
                refine lv_iload_n hx hb dX6_behindThrow_72 rfl (lv_at hl 3 rfl) ?_
                refine lv_istore (lv' := [(5, .int (nI oth)), (4, .int (nI (own + mm))), (0, .ref bx), (1, .int (nI own)), (2, .int (nI oth)), (3, .int (nI mm))]) hx hb dX6_behindThrow_73 hl (by decide) rfl (fun ls hl => ?_)
                refine lv_iload hx hb dX6_behindThrow_75 (lv_at hl 1 rfl) ?_
                refine zro_i (va_runS (As := [.int (nI (own + mm))]) (rest := []) ⟨hx, hb, hml, hown, hts⟩ (c_X6_isRosette l (own + mm) (by omega)) (va_cwS 1 hts gX6_behindThrow_X6_isRosette rfl rfl rfl (by decide +kernel) ⟨Nat.le_of_ble_eq_true rfl, Nat.le_of_ble_eq_true rfl⟩) zPu rfl rfl hl.1 rfl (lv_room (Nat.le_of_ble_eq_true rfl)) dX6_behindThrow_77 ⟨Nat.zero_le _, Nat.zero_le _⟩) hP hS (fun H locs hP hS => ?_)
                refine lv_if_eq (tgt := 99) hx hb dX6_behindThrow_80 (by decide) (fun c_80 => ?_) (fun c_80 => ?_)
                · skip
                  have c_80 := bI_0.mp c_80
                  refine lv_ldc (v := 1000000000) hx hb hown (hts (.constant RX6 71 (1000000000)) (List.mem_of_getElem? (i := 1) rfl)) dX6_behindThrow_99 ?_
                  refine lv_aload_n hx hb dX6_behindThrow_101 rfl (lv_at hl 2 rfl) ?_
                  refine va_get (D := (dC, dI)) (ci := 3) (v := .ref be) (C := RX6) (T := TX6) (N := 19) hx hb hts hinX6 hown hK hP 0 rfl rfl 10 (by decide) (hts (.fieldLink RX6 29 "RoyalUrTableModel" "elder" "[I") (List.mem_of_getElem? (i := 2) rfl)) (fun _ h9 => h9) rfl dX6_behindThrow_102 ?_
                  refine lv_bipush (v := 15) hx hb dX6_behindThrow_105 (by decide) ?_
                  refine lv_iload hx hb dX6_behindThrow_107 (lv_at hl 0 rfl) ?_
                  refine lv_imul hx hb dX6_behindThrow_109 ?_
                  refine zz_i (y := nI (15 * oth)) (pk_mul 15 oth) ?_
                  refine lv_iload hx hb dX6_behindThrow_110 (lv_at hl 1 rfl) ?_
                  refine lv_iadd hx hb dX6_behindThrow_112 ?_
                  refine zz_i (y := nI (15 * oth + (own + mm))) (nI_add (15 * oth) (own + mm)) ?_
                  refine zi_iald hx hb hK hP 1 0 rfl rfl (j := 15 * oth + (own + mm)) rfl (by omega) (by decide) dX6_behindThrow_113 ?_
                  have hle_113 := zE_le r9 oth (own + mm)
                  refine zz_i (y := nI (zE r9 oth (own + mm))) (hef oth (own + mm) (by omega) (by omega)) ?_
                  refine lv_isub hx hb dX6_behindThrow_114 ?_
                  refine zz_i (y := nI (1000000000 - (zE r9 oth (own + mm)))) (pk_sub (a := 1000000000) (b := zE r9 oth (own + mm)) (by omega)) ?_
                  exact W.iret (v := nI (1000000000 - (zE r9 oth (own + mm)))) hx hb hr (fun t ht hW => ⟨⟨_, (), rfl, (congrArg nI (by rw [zEB, if_neg c_6, if_neg (show ¬ zcen (own + mm) false (oth == own + mm) = false by rw [zc_t (by omega) (fun h => c_26 h.2)]; decide), if_neg c_48, if_neg (by rw [c_80]; decide), if_neg (fun h => c_65 h.1)])), trivial⟩, hS.F ht⟩) hS.2.2 dX6_behindThrow_115
                · skip
                  have c_80 := bI_1.mp c_80
                  refine lv_aload_n hx hb dX6_behindThrow_83 rfl (lv_at hl 2 rfl) ?_
                  refine va_get (D := (dC, dI)) (ci := 3) (v := .ref be) (C := RX6) (T := TX6) (N := 19) hx hb hts hinX6 hown hK hP 0 rfl rfl 10 (by decide) (hts (.fieldLink RX6 29 "RoyalUrTableModel" "elder" "[I") (List.mem_of_getElem? (i := 2) rfl)) (fun _ h9 => h9) rfl dX6_behindThrow_84 ?_
                  refine lv_bipush (v := 15) hx hb dX6_behindThrow_87 (by decide) ?_
                  refine lv_iload hx hb dX6_behindThrow_89 (lv_at hl 1 rfl) ?_
                  refine lv_imul hx hb dX6_behindThrow_91 ?_
                  refine zz_i (y := nI (15 * (own + mm))) (pk_mul 15 (own + mm)) ?_
                  refine lv_iload hx hb dX6_behindThrow_92 (lv_at hl 0 rfl) ?_
                  refine lv_iadd hx hb dX6_behindThrow_94 ?_
                  refine zz_i (y := nI (15 * (own + mm) + oth)) (nI_add (15 * (own + mm)) oth) ?_
                  refine zi_iald hx hb hK hP 1 0 rfl rfl (j := 15 * (own + mm) + oth) rfl (by omega) (by decide) dX6_behindThrow_95 ?_
                  have hle_95 := zE_le r9 (own + mm) oth
                  refine zz_i (y := nI (zE r9 (own + mm) oth)) (hef (own + mm) oth (by omega) (by omega)) ?_
                  refine lv_goto (tgt := 115) hx hb dX6_behindThrow_96 (by decide) ?_
                  exact W.iret (v := nI (zE r9 (own + mm) oth)) hx hb hr (fun t ht hW => ⟨⟨_, (), rfl, (congrArg nI (by rw [zEB, if_neg c_6, if_neg (show ¬ zcen (own + mm) false (oth == own + mm) = false by rw [zc_t (by omega) (fun h => c_26 h.2)]; decide), if_neg c_48, if_pos c_80, if_neg (fun h => c_65 h.1)])), trivial⟩, hS.F ht⟩) hS.2.2 dX6_behindThrow_115
              · skip
                have c_65 : oth = (own + mm) := (nI_eq (a := oth) (b := own + mm) (by omega) (by omega)).mp c_65
                refine lv_iconst (v := 0) hx hb dX6_behindThrow_68 (by decide) ?_
                refine lv_goto (tgt := 73) hx hb dX6_behindThrow_69 (by decide) ?_
                refine lv_istore (lv' := [(5, .int 0), (4, .int (nI (own + mm))), (0, .ref bx), (1, .int (nI own)), (2, .int (nI oth)), (3, .int (nI mm))]) hx hb dX6_behindThrow_73 hl (by decide) rfl (fun ls hl => ?_)
                refine lv_iload hx hb dX6_behindThrow_75 (lv_at hl 1 rfl) ?_
                refine zro_i (va_runS (As := [.int (nI (own + mm))]) (rest := []) ⟨hx, hb, hml, hown, hts⟩ (c_X6_isRosette l (own + mm) (by omega)) (va_cwS 1 hts gX6_behindThrow_X6_isRosette rfl rfl rfl (by decide +kernel) ⟨Nat.le_of_ble_eq_true rfl, Nat.le_of_ble_eq_true rfl⟩) zPu rfl rfl hl.1 rfl (lv_room (Nat.le_of_ble_eq_true rfl)) dX6_behindThrow_77 ⟨Nat.zero_le _, Nat.zero_le _⟩) hP hS (fun H locs hP hS => ?_)
                refine lv_if_eq (tgt := 99) hx hb dX6_behindThrow_80 (by decide) (fun c_80 => ?_) (fun c_80 => ?_)
                · skip
                  have c_80 := bI_0.mp c_80
                  refine lv_ldc (v := 1000000000) hx hb hown (hts (.constant RX6 71 (1000000000)) (List.mem_of_getElem? (i := 1) rfl)) dX6_behindThrow_99 ?_
                  refine lv_aload_n hx hb dX6_behindThrow_101 rfl (lv_at hl 2 rfl) ?_
                  refine va_get (D := (dC, dI)) (ci := 3) (v := .ref be) (C := RX6) (T := TX6) (N := 19) hx hb hts hinX6 hown hK hP 0 rfl rfl 10 (by decide) (hts (.fieldLink RX6 29 "RoyalUrTableModel" "elder" "[I") (List.mem_of_getElem? (i := 2) rfl)) (fun _ h9 => h9) rfl dX6_behindThrow_102 ?_
                  refine lv_bipush (v := 15) hx hb dX6_behindThrow_105 (by decide) ?_
                  refine lv_iload hx hb dX6_behindThrow_107 (lv_at hl 0 rfl) ?_
                  refine lv_imul hx hb dX6_behindThrow_109 ?_
                  refine zz_i (y := nI (15 * 0)) (pk_mul 15 0) ?_
                  refine lv_iload hx hb dX6_behindThrow_110 (lv_at hl 1 rfl) ?_
                  refine lv_iadd hx hb dX6_behindThrow_112 ?_
                  refine zz_i (y := nI (15 * 0 + (own + mm))) (nI_add (15 * 0) (own + mm)) ?_
                  refine zi_iald hx hb hK hP 1 0 rfl rfl (j := 15 * 0 + (own + mm)) rfl (by omega) (by decide) dX6_behindThrow_113 ?_
                  have hle_113 := zE_le r9 0 (own + mm)
                  refine zz_i (y := nI (zE r9 0 (own + mm))) (hef 0 (own + mm) (by omega) (by omega)) ?_
                  refine lv_isub hx hb dX6_behindThrow_114 ?_
                  refine zz_i (y := nI (1000000000 - (zE r9 0 (own + mm)))) (pk_sub (a := 1000000000) (b := zE r9 0 (own + mm)) (by omega)) ?_
                  exact W.iret (v := nI (1000000000 - (zE r9 0 (own + mm)))) hx hb hr (fun t ht hW => ⟨⟨_, (), rfl, (congrArg nI (by rw [zEB, if_neg c_6, if_neg (show ¬ zcen (own + mm) false (oth == own + mm) = false by rw [zc_t (by omega) (fun h => c_26 h.2)]; decide), if_neg c_48, if_neg (by rw [c_80]; decide), if_pos ⟨c_65, c_59⟩])), trivial⟩, hS.F ht⟩) hS.2.2 dX6_behindThrow_115
                · skip
                  have c_80 := bI_1.mp c_80
                  refine lv_aload_n hx hb dX6_behindThrow_83 rfl (lv_at hl 2 rfl) ?_
                  refine va_get (D := (dC, dI)) (ci := 3) (v := .ref be) (C := RX6) (T := TX6) (N := 19) hx hb hts hinX6 hown hK hP 0 rfl rfl 10 (by decide) (hts (.fieldLink RX6 29 "RoyalUrTableModel" "elder" "[I") (List.mem_of_getElem? (i := 2) rfl)) (fun _ h9 => h9) rfl dX6_behindThrow_84 ?_
                  refine lv_bipush (v := 15) hx hb dX6_behindThrow_87 (by decide) ?_
                  refine lv_iload hx hb dX6_behindThrow_89 (lv_at hl 1 rfl) ?_
                  refine lv_imul hx hb dX6_behindThrow_91 ?_
                  refine zz_i (y := nI (15 * (own + mm))) (pk_mul 15 (own + mm)) ?_
                  refine lv_iload hx hb dX6_behindThrow_92 (lv_at hl 0 rfl) ?_
                  refine lv_iadd hx hb dX6_behindThrow_94 ?_
                  refine zz_i (y := nI (15 * (own + mm) + 0)) (nI_add (15 * (own + mm)) 0) ?_
                  refine zi_iald hx hb hK hP 1 0 rfl rfl (j := 15 * (own + mm) + 0) rfl (by omega) (by decide) dX6_behindThrow_95 ?_
                  have hle_95 := zE_le r9 (own + mm) 0
                  refine zz_i (y := nI (zE r9 (own + mm) 0)) (hef (own + mm) 0 (by omega) (by omega)) ?_
                  refine lv_goto (tgt := 115) hx hb dX6_behindThrow_96 (by decide) ?_
                  exact W.iret (v := nI (zE r9 (own + mm) 0)) hx hb hr (fun t ht hW => ⟨⟨_, (), rfl, (congrArg nI (by rw [zEB, if_neg c_6, if_neg (show ¬ zcen (own + mm) false (oth == own + mm) = false by rw [zc_t (by omega) (fun h => c_26 h.2)]; decide), if_neg c_48, if_pos c_80, if_pos ⟨c_65, c_59⟩])), trivial⟩, hS.F ht⟩) hS.2.2 dX6_behindThrow_115
          · skip
            have c_48 : (own + mm) = 15 := (nI_eq (a := own + mm) (b := 15) (by omega) (by omega)).mp c_48
            refine lv_ldc (v := 1000000000) hx hb hown (hts (.constant RX6 71 (1000000000)) (List.mem_of_getElem? (i := 1) rfl)) dX6_behindThrow_51 ?_
            exact W.iret (v := 1000000000) hx hb hr (fun t ht hW => ⟨⟨_, (), rfl, (congrArg nI (by rw [zEB, if_neg c_6, if_neg (show ¬ zcen (own + mm) false (oth == own + mm) = false by rw [zc_t (by omega) (fun h => c_26 h.2)]; decide), if_pos c_48])), trivial⟩, hS.F ht⟩) hS.2.2 dX6_behindThrow_53
        · skip
          have c_26 : oth = 8 := (nI_eq (a := oth) (b := 8) (by omega) (by omega)).mp c_26
          refine lv_ldc (v := 1000000000) hx hb hown (hts (.constant RX6 71 (1000000000)) (List.mem_of_getElem? (i := 1) rfl)) dX6_behindThrow_29 ?_
          refine lv_aload_n hx hb dX6_behindThrow_31 rfl (lv_at hl 1 rfl) ?_
          refine va_get (D := (dC, dI)) (ci := 3) (v := .ref be) (C := RX6) (T := TX6) (N := 19) hx hb hts hinX6 hown hK hP 0 rfl rfl 10 (by decide) (hts (.fieldLink RX6 29 "RoyalUrTableModel" "elder" "[I") (List.mem_of_getElem? (i := 2) rfl)) (fun _ h9 => h9) rfl dX6_behindThrow_32 ?_
          refine lv_bipush (v := 15) hx hb dX6_behindThrow_35 (by decide) ?_
          refine lv_iload_n hx hb dX6_behindThrow_37 rfl (lv_at hl 3 rfl) ?_
          refine lv_imul hx hb dX6_behindThrow_38 ?_
          refine zz_i (y := nI (15 * oth)) (pk_mul 15 oth) ?_
          refine lv_iload_n hx hb dX6_behindThrow_39 rfl (lv_at hl 2 rfl) ?_
          refine lv_iadd hx hb dX6_behindThrow_40 ?_
          refine zz_i (y := nI (15 * oth + own)) (nI_add (15 * oth) own) ?_
          refine zi_iald hx hb hK hP 1 0 rfl rfl (j := 15 * oth + own) rfl (by omega) (by decide) dX6_behindThrow_41 ?_
          have hle_41 := zE_le r9 oth own
          refine zz_i (y := nI (zE r9 oth own)) (hef oth own (by omega) (by omega)) ?_
          refine lv_isub hx hb dX6_behindThrow_42 ?_
          refine zz_i (y := nI (1000000000 - (zE r9 oth own))) (pk_sub (a := 1000000000) (b := zE r9 oth own) (by omega)) ?_
          exact W.iret (v := nI (1000000000 - (zE r9 oth own))) hx hb hr (fun t ht hW => ⟨⟨_, (), rfl, (congrArg nI (by rw [zEB, if_neg c_6, if_pos (zc_f2 c_20 c_26)])), trivial⟩, hS.F ht⟩) hS.2.2 dX6_behindThrow_43

set_option maxHeartbeats 4000000 in
set_option maxRecDepth 100000 in
theorem c_X6_layTable (l : Launch) (dC : Nat → ClassId) (dI : Nat → Nat → Nat) (cyI cyJ : ClassId) (k : Nat) (bx bl ba bt bg be bf bw bs bm bn bb bu bh : Nat) (thr sI tI wI cI : Int32) (tf gf ef : Nat → Int32) (rr : Nat) (hrr : rr ≤ 60) (htf : ∀ j, j < 5 → tf j = nI (ztm j)) (hnd : [bx, bt, bg, be].Nodup) : Met l yX6_layTable wsX6_layTable ({ frames := 3, cells := 0, slots := 0, locals := 67 }) (zPc [.ref bx, .int (nI rr)] (dC, dI) vwCl [(cyI, .int), (cyJ, .long)] [(bx, .inr (3, [.int thr, .int (nI k), .int sI, .int tI, .int wI, .int cI, .ref bl, .ref ba, .ref bt, .ref bg, .ref be, .ref bf, .ref bw, .ref bs, .ref bm, .ref bn, .ref bb, .ref bu, .ref bh])), (bt, .inl (cyI, 5, .inl tf)), (bg, .inl (cyI, 225, .inl gf)), (be, .inl (cyI, 225, .inl ef))] (fun _ => True)) (va_Qv (fun u => zFt rr u.1) (fun (u : (Nat → Int32) × (Nat → Int32)) t => va_P (dC, dI) vwCl ([(bx, .inr (3, [.int thr, .int (nI k), .int sI, .int tI, .int wI, .int cI, .ref bl, .ref ba, .ref bt, .ref bg, .ref be, .ref bf, .ref bw, .ref bs, .ref bm, .ref bn, .ref bb, .ref bu, .ref bh])), (bt, .inl (cyI, 5, .inl tf)), (bg, .inl (cyI, 225, .inl u.1)), (be, .inl (cyI, 225, .inl u.2))]) t.heap) (zA [bx, bt, bg, be])) 0 0 (zA [bx, bt, bg, be]) := by
  refine Met.ofW (cc := cX6_layTable) (maxL := 7) (ret := none) (by decide) rfl ?_
  intro p e s m args below meth c s₁ B hml hv
  obtain ⟨rfl, hP, hK, hX⟩ := hv
  have hx := B.exec
  have hb := B.bytes
  have hr := B.returns
  have hts := atoms_spec (ws := wsX6_layTable) B.pre
  have hown : s.vm.findClass RX6 = some m.cls := findClass_of_methodNamed B.named
  have hlocks := B.notSynchronized
  have hinX6 : ∀ w ∈ wsX60, w ∈ wsX6_layTable := by decide +kernel
  have hl := lv_entry ([.ref bx, .int (nI rr)]) (n := 7) (Nat.le_of_ble_eq_true rfl)
  rw [lg_entry_eq]
  generalize (lg_sl ([.ref bx, .int (nI rr)]) ++ List.replicate (7 - (lg_sl ([.ref bx, .int (nI rr)])).length) Slot.unset).toArray = ls at hl ⊢
  have hl : lv_has ls 7 [(0, .ref bx), (1, .int (nI rr))] := hl
  have hS : va_S (zA [bx, bt, bg, be]) s.heap s.heap [] := va_S.rf
  have hDD : zD (zA [bx, bt, bg, be]) [bx, bt, bg, be] := ⟨hnd, fun _ h => h⟩
  generalize hQe : MQ below _ _ _ _ _ _ = Q
  refine lv_iconst (v := 0) hx hb dX6_layTable_0 (by decide) ?_
  refine lv_istore_n (lv' := [(2, .int 0), (0, .ref bx), (1, .int (nI rr))]) hx hb dX6_layTable_1 rfl hl (by decide) rfl (fun ls hl => ?_)
  have l1 : ∀ (n9 : Nat) (i : Nat) (g : Nat → Int32), i ≤ 225 → zFq 0 i g → 225 - i < n9 → ∀ (H : Heap) (locs : List Loc), va_P (dC, dI) vwCl [(bx, .inr (3, [.int thr, .int (nI k), .int sI, .int tI, .int wI, .int cI, .ref bl, .ref ba, .ref bt, .ref bg, .ref be, .ref bf, .ref bw, .ref bs, .ref bm, .ref bn, .ref bb, .ref bu, .ref bh])), (bt, .inl (cyI, 5, .inl tf)), (bg, .inl (cyI, 225, .inl g)), (be, .inl (cyI, 225, .inl ef))] H → va_S (zA [bx, bt, bg, be]) s.heap H locs → ∀ ls : Array Slot, lv_has ls 7 [(2, .int (nI i)), (0, .ref bx), (1, .int (nI rr))] → W p l e (headSpec wsX6_layTable ({ frames := 3, cells := 0, slots := 0, locals := 67 })).room s m ([.ref bx, .int (nI rr)] : List Value).toArray below meth c H locs 0 0 Q (F0 m 2 ls []) := by
    intro n9
    induction n9 with
    | zero => intro i g hi2 hg hm9; exact absurd hm9 (Nat.not_lt_zero _)
    | succ n9 ih2 =>
      intro i g hi2 hg hm9 H locs hP hS ls hl
      refine lv_iload_n hx hb dX6_layTable_2 rfl (lv_at hl 0 rfl) ?_
      refine lv_sipush (v := 225) hx hb dX6_layTable_3 (by decide) ?_
      refine lv_icmp_ge (tgt := 23) hx hb dX6_layTable_6 (by decide) (fun c_6 => ?_) (fun c_6 => ?_)
      · skip
        have c_6 : 225 ≤ i := (nI_leI (a := 225) (b := i) (by omega) (by omega)).mp c_6
        refine lv_iconst (v := 0) hx hb dX6_layTable_23 (by decide) ?_
        refine lv_istore_n (lv' := [(2, .int 0), (0, .ref bx), (1, .int (nI rr))]) hx hb dX6_layTable_24 rfl hl (by decide) rfl (fun ls hl => ?_)
        have l2 : ∀ (n9 : Nat) (r : Nat) (g : Nat → Int32) (e1 : Nat → Int32), r ≤ rr → zFq r 225 g → rr - r < n9 → ∀ (H : Heap) (locs : List Loc), va_P (dC, dI) vwCl [(bx, .inr (3, [.int thr, .int (nI k), .int sI, .int tI, .int wI, .int cI, .ref bl, .ref ba, .ref bt, .ref bg, .ref be, .ref bf, .ref bw, .ref bs, .ref bm, .ref bn, .ref bb, .ref bu, .ref bh])), (bt, .inl (cyI, 5, .inl tf)), (bg, .inl (cyI, 225, .inl g)), (be, .inl (cyI, 225, .inl e1))] H → va_S (zA [bx, bt, bg, be]) s.heap H locs → ∀ ls : Array Slot, lv_has ls 7 [(2, .int (nI r)), (0, .ref bx), (1, .int (nI rr))] → W p l e (headSpec wsX6_layTable ({ frames := 3, cells := 0, slots := 0, locals := 67 })).room s m ([.ref bx, .int (nI rr)] : List Value).toArray below meth c H locs 0 0 Q (F0 m 25 ls []) := by
          intro n9
          induction n9 with
          | zero => intro r g e1 hr2 hg hm9; exact absurd hm9 (Nat.not_lt_zero _)
          | succ n9 ih25 =>
            intro r g e1 hr2 hg hm9 H locs hP hS ls hl
            refine lv_iload_n hx hb dX6_layTable_25 rfl (lv_at hl 0 rfl) ?_
            refine lv_iload_n hx hb dX6_layTable_26 rfl (lv_at hl 2 rfl) ?_
            refine lv_icmp_ge (tgt := 138) hx hb dX6_layTable_27 (by decide) (fun c_27 => ?_) (fun c_27 => ?_)
            · skip
              have c_27 : rr ≤ r := (nI_leI (a := rr) (b := r) (by omega) (by omega)).mp c_27
              subst hQe
              exact W.vret hx hb hr (fun t ht hW => ⟨⟨(g, e1), rfl, (by rw [show r = rr by omega] at hg; exact hg.ft), zh ht hP⟩, hS.F ht⟩) hS.2.2 dX6_layTable_138
            · skip
              have c_27 : ¬ rr ≤ r := fun h9 => c_27 ((nI_leI (a := rr) (b := r) (by omega) (by omega)).mpr h9)
              refine lv_iconst (v := 0) hx hb dX6_layTable_30 (by decide) ?_
              refine lv_istore_n (lv' := [(3, .int 0), (2, .int (nI r)), (0, .ref bx), (1, .int (nI rr))]) hx hb dX6_layTable_31 rfl hl (by decide) rfl (fun ls hl => ?_)
              have l3 : ∀ (n9 : Nat) (i : Nat) (e2 : Nat → Int32), i ≤ 225 → zFq r i e2 → 225 - i < n9 → ∀ (H : Heap) (locs : List Loc), va_P (dC, dI) vwCl [(bx, .inr (3, [.int thr, .int (nI k), .int sI, .int tI, .int wI, .int cI, .ref bl, .ref ba, .ref bt, .ref bg, .ref be, .ref bf, .ref bw, .ref bs, .ref bm, .ref bn, .ref bb, .ref bu, .ref bh])), (bt, .inl (cyI, 5, .inl tf)), (bg, .inl (cyI, 225, .inl g)), (be, .inl (cyI, 225, .inl e2))] H → va_S (zA [bx, bt, bg, be]) s.heap H locs → ∀ ls : Array Slot, lv_has ls 7 [(3, .int (nI i)), (2, .int (nI r)), (0, .ref bx), (1, .int (nI rr))] → W p l e (headSpec wsX6_layTable ({ frames := 3, cells := 0, slots := 0, locals := 67 })).room s m ([.ref bx, .int (nI rr)] : List Value).toArray below meth c H locs 0 0 Q (F0 m 32 ls []) := by
                intro n9
                induction n9 with
                | zero => intro i e2 hi3 he3 hm9; exact absurd hm9 (Nat.not_lt_zero _)
                | succ n9 ih32 =>
                  intro i e2 hi3 he3 hm9 H locs hP hS ls hl
                  refine lv_iload_n hx hb dX6_layTable_32 rfl (lv_at hl 0 rfl) ?_
                  refine lv_sipush (v := 225) hx hb dX6_layTable_33 (by decide) ?_
                  refine lv_icmp_ge (tgt := 57) hx hb dX6_layTable_36 (by decide) (fun c_36 => ?_) (fun c_36 => ?_)
                  · skip
                    have c_36 : 225 ≤ i := (nI_leI (a := 225) (b := i) (by omega) (by omega)).mp c_36
                    refine lv_iconst (v := 0) hx hb dX6_layTable_57 (by decide) ?_
                    refine lv_istore_n (lv' := [(3, .int 0), (2, .int (nI r)), (0, .ref bx), (1, .int (nI rr))]) hx hb dX6_layTable_58 rfl hl (by decide) rfl (fun ls hl => ?_)
                    have he : zFt r e2 := by rw [show i = 225 by omega] at he3; exact he3.ft
                    have l4 : ∀ (n9 : Nat) (kk : Nat) (g4 : Nat → Int32), kk ≤ 225 → zFq (r + 1) kk g4 → 225 - kk < n9 → ∀ (H : Heap) (locs : List Loc), va_P (dC, dI) vwCl [(bx, .inr (3, [.int thr, .int (nI k), .int sI, .int tI, .int wI, .int cI, .ref bl, .ref ba, .ref bt, .ref bg, .ref be, .ref bf, .ref bw, .ref bs, .ref bm, .ref bn, .ref bb, .ref bu, .ref bh])), (bt, .inl (cyI, 5, .inl tf)), (bg, .inl (cyI, 225, .inl g4)), (be, .inl (cyI, 225, .inl e2))] H → va_S (zA [bx, bt, bg, be]) s.heap H locs → ∀ ls : Array Slot, lv_has ls 7 [(3, .int (nI kk)), (2, .int (nI r)), (0, .ref bx), (1, .int (nI rr))] → W p l e (headSpec wsX6_layTable ({ frames := 3, cells := 0, slots := 0, locals := 67 })).room s m ([.ref bx, .int (nI rr)] : List Value).toArray below meth c H locs 0 0 Q (F0 m 59 ls []) := by
                      intro n9
                      induction n9 with
                      | zero => intro kk g4 hk3 hg4 hm9; exact absurd hm9 (Nat.not_lt_zero _)
                      | succ n9 ih59 =>
                        intro kk g4 hk3 hg4 hm9 H locs hP hS ls hl
                        refine lv_iload_n hx hb dX6_layTable_59 rfl (lv_at hl 0 rfl) ?_
                        refine lv_sipush (v := 225) hx hb dX6_layTable_60 (by decide) ?_
                        refine lv_icmp_ge (tgt := 132) hx hb dX6_layTable_63 (by decide) (fun c_63 => ?_) (fun c_63 => ?_)
                        · skip
                          have c_63 : 225 ≤ kk := (nI_leI (a := 225) (b := kk) (by omega) (by omega)).mp c_63
                          refine lv_iinc (v := nI (r + 1)) (lv' := [(2, .int (nI (r + 1))), (3, .int (nI kk)), (0, .ref bx), (1, .int (nI rr))]) hx hb dX6_layTable_132 hl (k := 1) rfl (nI_1 r) (by decide) rfl (fun ls hl => ?_)
                          refine lv_goto (tgt := 25) hx hb dX6_layTable_135 (by decide) ?_
                          exact ih25 (r + 1) _ _ (by omega) (by rw [show kk = 225 by omega] at hg4; exact hg4) (by omega) _ _ hP hS _ (lv_sub hl [0, 2, 3] rfl)
                        · skip
                          have c_63 : ¬ 225 ≤ kk := fun h9 => c_63 ((nI_leI (a := 225) (b := kk) (by omega) (by omega)).mpr h9)
                          refine lv_lconst (v := 0) hx hb dX6_layTable_66 (by decide) ?_
                          refine lv_lstore (lv' := [(4, .long 0), (3, .int (nI kk)), (2, .int (nI r)), (0, .ref bx), (1, .int (nI rr))]) hx hb dX6_layTable_67 hl (by decide) rfl (fun ls hl => ?_)
                          refine lv_iconst (v := 0) hx hb dX6_layTable_69 (by decide) ?_
                          refine lv_istore (lv' := [(6, .int 0), (4, .long 0), (3, .int (nI kk)), (2, .int (nI r)), (0, .ref bx), (1, .int (nI rr))]) hx hb dX6_layTable_70 hl (by decide) rfl (fun ls hl => ?_)
                          have hfl : ∀ m, m ≤ 4 → (zEB (zE r) (kk / 15) (kk % 15)) m ≤ 1000000000 := fun m _ => zEB_le (zE_le _) _ _ _
                          have l5 : ∀ (n9 : Nat) (i5 : Nat) (sv : Int64), i5 ≤ 5 → sv = lN (zsm (zEB (zE r) (kk / 15) (kk % 15)) i5) → 5 - i5 < n9 → ∀ (H : Heap) (locs : List Loc), va_P (dC, dI) vwCl [(bx, .inr (3, [.int thr, .int (nI k), .int sI, .int tI, .int wI, .int cI, .ref bl, .ref ba, .ref bt, .ref bg, .ref be, .ref bf, .ref bw, .ref bs, .ref bm, .ref bn, .ref bb, .ref bu, .ref bh])), (bt, .inl (cyI, 5, .inl tf)), (bg, .inl (cyI, 225, .inl g4)), (be, .inl (cyI, 225, .inl e2))] H → va_S (zA [bx, bt, bg, be]) s.heap H locs → ∀ ls : Array Slot, lv_has ls 7 [(6, .int (nI i5)), (4, .long sv), (3, .int (nI kk)), (2, .int (nI r)), (0, .ref bx), (1, .int (nI rr))] → W p l e (headSpec wsX6_layTable ({ frames := 3, cells := 0, slots := 0, locals := 67 })).room s m ([.ref bx, .int (nI rr)] : List Value).toArray below meth c H locs 0 0 Q (F0 m 72 ls []) := by
                            intro n9
                            induction n9 with
                            | zero => intro i5 sv hi5 hsv hm9; exact absurd hm9 (Nat.not_lt_zero _)
                            | succ n9 ih72 =>
                              intro i5 sv hi5 hsv hm9 H locs hP hS ls hl
                              refine lv_iload hx hb dX6_layTable_72 (lv_at hl 0 rfl) ?_
                              refine lv_iconst (v := 5) hx hb dX6_layTable_74 (by decide) ?_
                              refine lv_icmp_ge (tgt := 113) hx hb dX6_layTable_75 (by decide) (fun c_75 => ?_) (fun c_75 => ?_)
                              · skip
                                have c_75 : 5 ≤ i5 := (nI_leI (a := 5) (b := i5) (by omega) (by omega)).mp c_75
                                refine lv_aload_n hx hb dX6_layTable_113 rfl (lv_at hl 4 rfl) ?_
                                refine va_get (D := (dC, dI)) (ci := 3) (v := .ref bg) (C := RX6) (T := TX6) (N := 19) hx hb hts hinX6 hown hK hP 0 rfl rfl 9 (by decide) (hts (.fieldLink RX6 26 "RoyalUrTableModel" "table" "[I") (List.mem_of_getElem? (i := 1) rfl)) (fun _ h9 => h9) rfl dX6_layTable_114 ?_
                                refine lv_iload_n hx hb dX6_layTable_117 rfl (lv_at hl 2 rfl) ?_
                                refine lv_lload hx hb dX6_layTable_118 (lv_at hl 1 rfl) ?_
                                refine lv_ldc2 (v := 16) hx hb hown (hts (.constantLong RX6 84 (16)) (List.mem_of_getElem? (i := 5) rfl)) dX6_layTable_120 ?_
                                refine lv_ldiv hx hb dX6_layTable_123 (by decide) ?_
                                refine zz_l (y := lN (zsm (zEB (zE r) (kk / 15) (kk % 15)) 5 / 16)) (by rw [hsv, show i5 = 5 by omega]; exact zdiv16 (zsm_le hfl 5 (by omega))) ?_
                                refine lv_l2i (v := (lN (zsm (zEB (zE r) (kk / 15) (kk % 15)) 5 / 16) : Int64).toInt32) hx hb dX6_layTable_124 rfl ?_
                                refine zz_i (y := nI (zsm (zEB (zE r) (kk / 15) (kk % 15)) 5 / 16)) (lN_i _) ?_
                                refine zi_iast hx hb hK hP hDD hS 2 0 rfl rfl (j := kk) rfl (by omega) (by decide) dX6_layTable_125 (fun H locs hP hS => ?_)
                                have hP : va_P (dC, dI) vwCl [(bx, .inr (3, [.int thr, .int (nI k), .int sI, .int tI, .int wI, .int cI, .ref bl, .ref ba, .ref bt, .ref bg, .ref be, .ref bf, .ref bw, .ref bs, .ref bm, .ref bn, .ref bb, .ref bu, .ref bh])), (bt, .inl (cyI, 5, .inl tf)), (bg, .inl (cyI, 225, .inl (upd g4 kk (nI (zsm (zEB (zE r) (kk / 15) (kk % 15)) 5 / 16))))), (be, .inl (cyI, 225, .inl e2))] H := hP
                                refine lv_iinc (v := nI (kk + 1)) (lv' := [(3, .int (nI (kk + 1))), (6, .int (nI i5)), (4, .long sv), (2, .int (nI r)), (0, .ref bx), (1, .int (nI rr))]) hx hb dX6_layTable_126 hl (k := 2) rfl (nI_1 kk) (by decide) rfl (fun ls hl => ?_)
                                refine lv_goto (tgt := 59) hx hb dX6_layTable_129 (by decide) ?_
                                exact ih59 (kk + 1) _ (by omega) (zFq_s hg4 rfl) (by omega) _ _ hP hS _ (lv_sub hl [0, 3, 4, 5] rfl)
                              · skip
                                have c_75 : ¬ 5 ≤ i5 := fun h9 => c_75 ((nI_leI (a := 5) (b := i5) (by omega) (by omega)).mpr h9)
                                refine lv_lload hx hb dX6_layTable_78 (lv_at hl 1 rfl) ?_
                                refine lv_aload_n hx hb dX6_layTable_80 rfl (lv_at hl 4 rfl) ?_
                                refine va_get (D := (dC, dI)) (ci := 3) (v := .ref bt) (C := RX6) (T := TX6) (N := 19) hx hb hts hinX6 hown hK hP 0 rfl rfl 8 (by decide) (hts (.fieldLink RX6 23 "RoyalUrTableModel" "times" "[I") (List.mem_of_getElem? (i := 4) rfl)) (fun _ h9 => h9) rfl dX6_layTable_81 ?_
                                refine lv_iload hx hb dX6_layTable_84 (lv_at hl 0 rfl) ?_
                                refine zi_iald hx hb hK hP 1 0 rfl rfl (j := i5) rfl (by omega) (by decide) dX6_layTable_86 ?_
                                refine zz_i (y := nI (ztm i5)) (htf i5 (by omega)) ?_
                                refine lv_i2l (v := (nI (ztm i5) : Int32).toInt64) hx hb dX6_layTable_87 rfl ?_
                                refine zz_l (y := lN (ztm i5)) (ztm_l i5) ?_
                                refine lv_aload_n hx hb dX6_layTable_88 rfl (lv_at hl 4 rfl) ?_
                                refine lv_iload_n hx hb dX6_layTable_89 rfl (lv_at hl 2 rfl) ?_
                                refine lv_bipush (v := 15) hx hb dX6_layTable_90 (by decide) ?_
                                refine lv_idiv hx hb dX6_layTable_92 (by decide) ?_
                                refine zz_i (y := nI (kk / 15)) (pk_div (a := kk) (d := 15) (by omega) (by decide) (by decide)) ?_
                                refine lv_iload_n hx hb dX6_layTable_93 rfl (lv_at hl 2 rfl) ?_
                                refine lv_bipush (v := 15) hx hb dX6_layTable_94 (by decide) ?_
                                refine lv_irem hx hb dX6_layTable_96 (by decide) ?_
                                refine zz_i (y := nI (kk % 15)) (pk_rem (a := kk) (d := 15) (by omega) (by decide) (by decide)) ?_
                                refine lv_iload hx hb dX6_layTable_97 (lv_at hl 0 rfl) ?_
                                refine zro_i (va_runV (As := [.int (nI (kk / 15)), .int (nI (kk % 15)), .int (nI i5)]) (rest := [.long (lN (ztm i5)), .long sv]) ⟨hx, hb, hml, hown, hts⟩ (c_X6_behindThrow l dC dI cyI cyJ k bx bl ba bt bg be bf bw bs bm bn bb bu bh thr sI tI wI cI e2 r he (kk / 15) (kk % 15) i5 (by omega) (by omega) (by omega)) (cwV 3 hts gX6_layTable_X6_behindThrow rfl rfl rfl (by decide +kernel) ⟨Nat.le_of_ble_eq_true rfl, Nat.le_of_ble_eq_true rfl⟩) (zPc_V (ci := 3) (q0 := 0) zB_T hP hK rfl rfl [0, 3] rfl (fun _ _ _ => trivial)) rfl rfl hl.1 rfl (lv_room (Nat.le_of_ble_eq_true rfl)) dX6_layTable_99 ⟨Nat.zero_le _, Nat.zero_le _⟩) hP hS (fun H locs hP hS => ?_)
                                refine lv_i2l (v := (nI (zEB (zE r) (kk / 15) (kk % 15) i5) : Int32).toInt64) hx hb dX6_layTable_102 rfl ?_
                                refine zz_l (y := lN ((zEB (zE r) (kk / 15) (kk % 15)) i5)) (nI_lw (hfl i5 (by omega))) ?_
                                refine lv_lmul hx hb dX6_layTable_103 ?_
                                refine lv_ladd hx hb dX6_layTable_104 ?_
                                refine zz_l (y := lN (zsm (zEB (zE r) (kk / 15) (kk % 15)) (i5 + 1))) (by rw [hsv]; exact zsm_s (zEB (zE r) (kk / 15) (kk % 15)) i5) ?_
                                refine lv_lstore (lv' := [(4, .long (lN (zsm (zEB (zE r) (kk / 15) (kk % 15)) (i5 + 1)))), (6, .int (nI i5)), (3, .int (nI kk)), (2, .int (nI r)), (0, .ref bx), (1, .int (nI rr))]) hx hb dX6_layTable_105 hl (by decide) rfl (fun ls hl => ?_)
                                refine lv_iinc (v := nI (i5 + 1)) (lv' := [(6, .int (nI (i5 + 1))), (4, .long (lN (zsm (zEB (zE r) (kk / 15) (kk % 15)) (i5 + 1)))), (3, .int (nI kk)), (2, .int (nI r)), (0, .ref bx), (1, .int (nI rr))]) hx hb dX6_layTable_107 hl (k := 1) rfl (nI_1 i5) (by decide) rfl (fun ls hl => ?_)
                                refine lv_goto (tgt := 72) hx hb dX6_layTable_110 (by decide) ?_
                                exact ih72 (i5 + 1) _ (by omega) rfl (by omega) _ _ hP hS _ (lv_sub hl [0, 1, 2, 3, 4, 5] rfl)
                          exact l5 6 0 0 (by omega) rfl (by omega) _ _ hP hS _ (lv_sub hl [0, 1, 2, 3, 4, 5] rfl)
                    exact l4 226 0 g (by omega) (zFq_0 _ _) (by omega) _ _ hP hS _ (lv_sub hl [0, 1, 2, 3] rfl)
                  · skip
                    have c_36 : ¬ 225 ≤ i := fun h9 => c_36 ((nI_leI (a := 225) (b := i) (by omega) (by omega)).mpr h9)
                    refine lv_aload_n hx hb dX6_layTable_39 rfl (lv_at hl 2 rfl) ?_
                    refine va_get (D := (dC, dI)) (ci := 3) (v := .ref be) (C := RX6) (T := TX6) (N := 19) hx hb hts hinX6 hown hK hP 0 rfl rfl 10 (by decide) (hts (.fieldLink RX6 29 "RoyalUrTableModel" "elder" "[I") (List.mem_of_getElem? (i := 3) rfl)) (fun _ h9 => h9) rfl dX6_layTable_40 ?_
                    refine lv_iload_n hx hb dX6_layTable_43 rfl (lv_at hl 0 rfl) ?_
                    refine lv_aload_n hx hb dX6_layTable_44 rfl (lv_at hl 2 rfl) ?_
                    refine va_get (D := (dC, dI)) (ci := 3) (v := .ref bg) (C := RX6) (T := TX6) (N := 19) hx hb hts hinX6 hown hK hP 0 rfl rfl 9 (by decide) (hts (.fieldLink RX6 26 "RoyalUrTableModel" "table" "[I") (List.mem_of_getElem? (i := 1) rfl)) (fun _ h9 => h9) rfl dX6_layTable_45 ?_
                    refine lv_iload_n hx hb dX6_layTable_48 rfl (lv_at hl 0 rfl) ?_
                    refine zi_iald hx hb hK hP 2 0 rfl rfl (j := i) rfl (by omega) (by decide) dX6_layTable_49 ?_
                    refine zi_iast hx hb hK hP hDD hS 3 0 rfl rfl (j := i) rfl (by omega) (by decide) dX6_layTable_50 (fun H locs hP hS => ?_)
                    have hP : va_P (dC, dI) vwCl [(bx, .inr (3, [.int thr, .int (nI k), .int sI, .int tI, .int wI, .int cI, .ref bl, .ref ba, .ref bt, .ref bg, .ref be, .ref bf, .ref bw, .ref bs, .ref bm, .ref bn, .ref bb, .ref bu, .ref bh])), (bt, .inl (cyI, 5, .inl tf)), (bg, .inl (cyI, 225, .inl g)), (be, .inl (cyI, 225, .inl (upd e2 i (g i))))] H := hP
                    refine lv_iinc (v := nI (i + 1)) (lv' := [(3, .int (nI (i + 1))), (2, .int (nI r)), (0, .ref bx), (1, .int (nI rr))]) hx hb dX6_layTable_51 hl (k := 0) rfl (nI_1 i) (by decide) rfl (fun ls hl => ?_)
                    refine lv_goto (tgt := 32) hx hb dX6_layTable_54 (by decide) ?_
                    exact ih32 (i + 1) _ (by omega) (zFq_s he3 (hg i (by omega))) (by omega) _ _ hP hS _ (lv_sub hl [0, 1, 2, 3] rfl)
              exact l3 226 0 e1 (by omega) (zFq_0 _ _) (by omega) _ _ hP hS _ (lv_sub hl [0, 1, 2, 3] rfl)
        exact l2 (rr + 1) 0 g ef (by omega) (by rw [show i = 225 by omega] at hg; exact hg) (by omega) _ _ hP hS _ (lv_sub hl [0, 1, 2] rfl)
      · skip
        have c_6 : ¬ 225 ≤ i := fun h9 => c_6 ((nI_leI (a := 225) (b := i) (by omega) (by omega)).mpr h9)
        refine lv_aload_n hx hb dX6_layTable_9 rfl (lv_at hl 1 rfl) ?_
        refine va_get (D := (dC, dI)) (ci := 3) (v := .ref bg) (C := RX6) (T := TX6) (N := 19) hx hb hts hinX6 hown hK hP 0 rfl rfl 9 (by decide) (hts (.fieldLink RX6 26 "RoyalUrTableModel" "table" "[I") (List.mem_of_getElem? (i := 1) rfl)) (fun _ h9 => h9) rfl dX6_layTable_10 ?_
        refine lv_iload_n hx hb dX6_layTable_13 rfl (lv_at hl 0 rfl) ?_
        refine lv_ldc (v := 500000000) hx hb hown (hts (.constant RX6 79 (500000000)) (List.mem_of_getElem? (i := 2) rfl)) dX6_layTable_14 ?_
        refine zi_iast hx hb hK hP hDD hS 2 0 rfl rfl (j := i) rfl (by omega) (by decide) dX6_layTable_16 (fun H locs hP hS => ?_)
        have hP : va_P (dC, dI) vwCl [(bx, .inr (3, [.int thr, .int (nI k), .int sI, .int tI, .int wI, .int cI, .ref bl, .ref ba, .ref bt, .ref bg, .ref be, .ref bf, .ref bw, .ref bs, .ref bm, .ref bn, .ref bb, .ref bu, .ref bh])), (bt, .inl (cyI, 5, .inl tf)), (bg, .inl (cyI, 225, .inl (upd g i 500000000))), (be, .inl (cyI, 225, .inl ef))] H := hP
        refine lv_iinc (v := nI (i + 1)) (lv' := [(2, .int (nI (i + 1))), (0, .ref bx), (1, .int (nI rr))]) hx hb dX6_layTable_17 hl (k := 0) rfl (nI_1 i) (by decide) rfl (fun ls hl => ?_)
        refine lv_goto (tgt := 2) hx hb dX6_layTable_20 (by decide) ?_
        exact ih2 (i + 1) _ (by omega) (zFq_s hg rfl) (by omega) _ _ hP hS _ (lv_sub hl [0, 1, 2] rfl)
  exact l1 226 0 gf (by omega) (zFq_0 _ _) (by omega) _ _ hP hS _ (lv_sub hl [0, 1, 2] rfl)

set_option maxHeartbeats 4000000 in
set_option maxRecDepth 100000 in
theorem c_X6_enters (l : Launch) (dC : Nat → ClassId) (dI : Nat → Nat → Nat) (cyI cyJ : ClassId) (k : Nat) (bx bl ba bt bg be bf bw bs bm bn bb bu bh : Nat) (thr sI tI wI cI : Int32) (Sf Mf Nf Bf : Nat → Int32) (Uf : Nat → Int64) (h : Nat) (hh : h < 5) (s9 : Int32) (hnd : [bx, bs, bm, bn, bb, bu].Nodup) : Met l yX6_enters wsX6_enters ({ frames := 0, cells := 0, slots := 0, locals := 0 }) (zPc [.ref bx, .int (nI h), .int s9] (dC, dI) vwCl [(cyI, .int), (cyJ, .long)] [(bx, .inr (3, [.int thr, .int (nI k), .int sI, .int tI, .int wI, .int cI, .ref bl, .ref ba, .ref bt, .ref bg, .ref be, .ref bf, .ref bw, .ref bs, .ref bm, .ref bn, .ref bb, .ref bu, .ref bh])), (bs, .inl (cyI, 5, .inl Sf)), (bm, .inl (cyI, 5, .inl Mf)), (bn, .inl (cyI, 5, .inl Nf)), (bb, .inl (cyI, 5, .inl Bf)), (bu, .inl (cyJ, 5, .inr (.inl Uf)))] (fun _ => True)) (va_Qv (fun (_ : Unit) => True) (fun (u : Unit) t => va_P (dC, dI) vwCl ([(bx, .inr (3, [.int thr, .int (nI k), .int sI, .int tI, .int wI, .int cI, .ref bl, .ref ba, .ref bt, .ref bg, .ref be, .ref bf, .ref bw, .ref bs, .ref bm, .ref bn, .ref bb, .ref bu, .ref bh])), (bs, .inl (cyI, 5, .inl (upd Sf h s9))), (bm, .inl (cyI, 5, .inl (upd Mf h 0))), (bn, .inl (cyI, 5, .inl (upd Nf h 0))), (bb, .inl (cyI, 5, .inl (upd Bf h (-1)))), (bu, .inl (cyJ, 5, .inr (.inl (vp_updL Uf h 0))))]) t.heap) (zA [bx, bs, bm, bn, bb, bu])) 0 0 (zA [bx, bs, bm, bn, bb, bu]) := by
  refine Met.ofW (cc := cX6_enters) (maxL := 3) (ret := none) (by decide) rfl ?_
  intro p e s m args below meth c s₁ B hml hv
  obtain ⟨rfl, hP, hK, hX⟩ := hv
  have hx := B.exec
  have hb := B.bytes
  have hr := B.returns
  have hts := atoms_spec (ws := wsX6_enters) B.pre
  have hown : s.vm.findClass RX6 = some m.cls := findClass_of_methodNamed B.named
  have hlocks := B.notSynchronized
  have hinX6 : ∀ w ∈ wsX60, w ∈ wsX6_enters := by decide +kernel
  have hl := lv_entry ([.ref bx, .int (nI h), .int s9]) (n := 3) (Nat.le_of_ble_eq_true rfl)
  rw [lg_entry_eq]
  generalize (lg_sl ([.ref bx, .int (nI h), .int s9]) ++ List.replicate (3 - (lg_sl ([.ref bx, .int (nI h), .int s9])).length) Slot.unset).toArray = ls at hl ⊢
  have hl : lv_has ls 3 [(0, .ref bx), (1, .int (nI h)), (2, .int s9)] := hl
  have hS : va_S (zA [bx, bs, bm, bn, bb, bu]) s.heap s.heap [] := va_S.rf
  have hDD : zD (zA [bx, bs, bm, bn, bb, bu]) [bx, bs, bm, bn, bb, bu] := ⟨hnd, fun _ h => h⟩
  refine lv_aload_n hx hb dX6_enters_0 rfl (lv_at hl 0 rfl) ?_
  refine va_get (D := (dC, dI)) (ci := 3) (v := .ref bs) (C := RX6) (T := TX6) (N := 19) hx hb hts hinX6 hown hK hP 0 rfl rfl 13 (by decide) (hts (.fieldLink RX6 38 "RoyalUrTableModel" "sides" "[I") (List.mem_of_getElem? (i := 1) rfl)) (fun _ h9 => h9) rfl dX6_enters_1 ?_
  refine lv_iload_n hx hb dX6_enters_4 rfl (lv_at hl 1 rfl) ?_
  refine lv_iload_n hx hb dX6_enters_5 rfl (lv_at hl 2 rfl) ?_
  refine zi_iast hx hb hK hP hDD hS 1 0 rfl rfl (j := h) rfl (by omega) (by decide) dX6_enters_6 (fun H locs hP hS => ?_)
  have hP : va_P (dC, dI) vwCl [(bx, .inr (3, [.int thr, .int (nI k), .int sI, .int tI, .int wI, .int cI, .ref bl, .ref ba, .ref bt, .ref bg, .ref be, .ref bf, .ref bw, .ref bs, .ref bm, .ref bn, .ref bb, .ref bu, .ref bh])), (bs, .inl (cyI, 5, .inl (upd Sf h s9))), (bm, .inl (cyI, 5, .inl Mf)), (bn, .inl (cyI, 5, .inl Nf)), (bb, .inl (cyI, 5, .inl Bf)), (bu, .inl (cyJ, 5, .inr (.inl Uf)))] H := hP
  refine lv_aload_n hx hb dX6_enters_7 rfl (lv_at hl 0 rfl) ?_
  refine va_get (D := (dC, dI)) (ci := 3) (v := .ref bm) (C := RX6) (T := TX6) (N := 19) hx hb hts hinX6 hown hK hP 0 rfl rfl 14 (by decide) (hts (.fieldLink RX6 41 "RoyalUrTableModel" "marks" "[I") (List.mem_of_getElem? (i := 2) rfl)) (fun _ h9 => h9) rfl dX6_enters_8 ?_
  refine lv_iload_n hx hb dX6_enters_11 rfl (lv_at hl 1 rfl) ?_
  refine lv_iconst (v := 0) hx hb dX6_enters_12 (by decide) ?_
  refine zi_iast hx hb hK hP hDD hS 2 0 rfl rfl (j := h) rfl (by omega) (by decide) dX6_enters_13 (fun H locs hP hS => ?_)
  have hP : va_P (dC, dI) vwCl [(bx, .inr (3, [.int thr, .int (nI k), .int sI, .int tI, .int wI, .int cI, .ref bl, .ref ba, .ref bt, .ref bg, .ref be, .ref bf, .ref bw, .ref bs, .ref bm, .ref bn, .ref bb, .ref bu, .ref bh])), (bs, .inl (cyI, 5, .inl (upd Sf h s9))), (bm, .inl (cyI, 5, .inl (upd Mf h 0))), (bn, .inl (cyI, 5, .inl Nf)), (bb, .inl (cyI, 5, .inl Bf)), (bu, .inl (cyJ, 5, .inr (.inl Uf)))] H := hP
  refine lv_aload_n hx hb dX6_enters_14 rfl (lv_at hl 0 rfl) ?_
  refine va_get (D := (dC, dI)) (ci := 3) (v := .ref bn) (C := RX6) (T := TX6) (N := 19) hx hb hts hinX6 hown hK hP 0 rfl rfl 15 (by decide) (hts (.fieldLink RX6 44 "RoyalUrTableModel" "next" "[I") (List.mem_of_getElem? (i := 3) rfl)) (fun _ h9 => h9) rfl dX6_enters_15 ?_
  refine lv_iload_n hx hb dX6_enters_18 rfl (lv_at hl 1 rfl) ?_
  refine lv_iconst (v := 0) hx hb dX6_enters_19 (by decide) ?_
  refine zi_iast hx hb hK hP hDD hS 3 0 rfl rfl (j := h) rfl (by omega) (by decide) dX6_enters_20 (fun H locs hP hS => ?_)
  have hP : va_P (dC, dI) vwCl [(bx, .inr (3, [.int thr, .int (nI k), .int sI, .int tI, .int wI, .int cI, .ref bl, .ref ba, .ref bt, .ref bg, .ref be, .ref bf, .ref bw, .ref bs, .ref bm, .ref bn, .ref bb, .ref bu, .ref bh])), (bs, .inl (cyI, 5, .inl (upd Sf h s9))), (bm, .inl (cyI, 5, .inl (upd Mf h 0))), (bn, .inl (cyI, 5, .inl (upd Nf h 0))), (bb, .inl (cyI, 5, .inl Bf)), (bu, .inl (cyJ, 5, .inr (.inl Uf)))] H := hP
  refine lv_aload_n hx hb dX6_enters_21 rfl (lv_at hl 0 rfl) ?_
  refine va_get (D := (dC, dI)) (ci := 3) (v := .ref bb) (C := RX6) (T := TX6) (N := 19) hx hb hts hinX6 hown hK hP 0 rfl rfl 16 (by decide) (hts (.fieldLink RX6 47 "RoyalUrTableModel" "best" "[I") (List.mem_of_getElem? (i := 4) rfl)) (fun _ h9 => h9) rfl dX6_enters_22 ?_
  refine lv_iload_n hx hb dX6_enters_25 rfl (lv_at hl 1 rfl) ?_
  refine lv_iconst (v := -1) hx hb dX6_enters_26 (by decide) ?_
  refine zi_iast hx hb hK hP hDD hS 4 0 rfl rfl (j := h) rfl (by omega) (by decide) dX6_enters_27 (fun H locs hP hS => ?_)
  have hP : va_P (dC, dI) vwCl [(bx, .inr (3, [.int thr, .int (nI k), .int sI, .int tI, .int wI, .int cI, .ref bl, .ref ba, .ref bt, .ref bg, .ref be, .ref bf, .ref bw, .ref bs, .ref bm, .ref bn, .ref bb, .ref bu, .ref bh])), (bs, .inl (cyI, 5, .inl (upd Sf h s9))), (bm, .inl (cyI, 5, .inl (upd Mf h 0))), (bn, .inl (cyI, 5, .inl (upd Nf h 0))), (bb, .inl (cyI, 5, .inl (upd Bf h (-1)))), (bu, .inl (cyJ, 5, .inr (.inl Uf)))] H := hP
  refine lv_aload_n hx hb dX6_enters_28 rfl (lv_at hl 0 rfl) ?_
  refine va_get (D := (dC, dI)) (ci := 3) (v := .ref bu) (C := RX6) (T := TX6) (N := 19) hx hb hts hinX6 hown hK hP 0 rfl rfl 17 (by decide) (hts (.fieldLink RX6 50 "RoyalUrTableModel" "sums" "[J") (List.mem_of_getElem? (i := 5) rfl)) (fun _ h9 => h9) rfl dX6_enters_29 ?_
  refine lv_iload_n hx hb dX6_enters_32 rfl (lv_at hl 1 rfl) ?_
  refine lv_lconst (v := 0) hx hb dX6_enters_33 (by decide) ?_
  refine zi_last hx hb hK hP hDD hS 5 1 rfl rfl (j := h) rfl (by omega) (by decide) dX6_enters_34 (fun H locs hP hS => ?_)
  have hP : va_P (dC, dI) vwCl [(bx, .inr (3, [.int thr, .int (nI k), .int sI, .int tI, .int wI, .int cI, .ref bl, .ref ba, .ref bt, .ref bg, .ref be, .ref bf, .ref bw, .ref bs, .ref bm, .ref bn, .ref bb, .ref bu, .ref bh])), (bs, .inl (cyI, 5, .inl (upd Sf h s9))), (bm, .inl (cyI, 5, .inl (upd Mf h 0))), (bn, .inl (cyI, 5, .inl (upd Nf h 0))), (bb, .inl (cyI, 5, .inl (upd Bf h (-1)))), (bu, .inl (cyJ, 5, .inr (.inl (vp_updL Uf h 0))))] H := hP
  exact W.vret hx hb hr (fun t ht hW => ⟨⟨(), rfl, trivial, zh ht hP⟩, hS.F ht⟩) hS.2.2 dX6_enters_35

set_option maxHeartbeats 4000000 in
set_option maxRecDepth 100000 in
theorem c_X6_copies (l : Launch) (dC : Nat → ClassId) (dI : Nat → Nat → Nat) (cyI cyJ : ClassId) (k : Nat) (bx bl ba bt bg be bf bw bs bm bn bb bu bh : Nat) (thr sI tI wI cI : Int32) (Wf : Nat → Int32) (h : Nat) (hh : h < 4) (hnd : [bx, bw].Nodup) : Met l yX6_copies wsX6_copies ({ frames := 0, cells := 0, slots := 0, locals := 0 }) (zPc [.ref bx, .int (nI h)] (dC, dI) vwCl [(cyI, .int), (cyJ, .long)] [(bx, .inr (3, [.int thr, .int (nI k), .int sI, .int tI, .int wI, .int cI, .ref bl, .ref ba, .ref bt, .ref bg, .ref be, .ref bf, .ref bw, .ref bs, .ref bm, .ref bn, .ref bb, .ref bu, .ref bh])), (bw, .inl (cyI, 160, .inl Wf))] (fun _ => True)) (va_Qv (fun (u : Nat → Int32) => (∀ q, q < 32 * h + 32 → u q = Wf q) ∧ ∀ j, j < 32 → u (32 * h + 32 + j) = Wf (32 * h + j)) (fun (u : Nat → Int32) t => va_P (dC, dI) vwCl ([(bx, .inr (3, [.int thr, .int (nI k), .int sI, .int tI, .int wI, .int cI, .ref bl, .ref ba, .ref bt, .ref bg, .ref be, .ref bf, .ref bw, .ref bs, .ref bm, .ref bn, .ref bb, .ref bu, .ref bh])), (bw, .inl (cyI, 160, .inl u))]) t.heap) (zA [bx, bw])) 0 0 (zA [bx, bw]) := by
  refine Met.ofW (cc := cX6_copies) (maxL := 3) (ret := none) (by decide) rfl ?_
  intro p e s m args below meth c s₁ B hml hv
  obtain ⟨rfl, hP, hK, hX⟩ := hv
  have hx := B.exec
  have hb := B.bytes
  have hr := B.returns
  have hts := atoms_spec (ws := wsX6_copies) B.pre
  have hown : s.vm.findClass RX6 = some m.cls := findClass_of_methodNamed B.named
  have hlocks := B.notSynchronized
  have hinX6 : ∀ w ∈ wsX60, w ∈ wsX6_copies := by decide +kernel
  have hl := lv_entry ([.ref bx, .int (nI h)]) (n := 3) (Nat.le_of_ble_eq_true rfl)
  rw [lg_entry_eq]
  generalize (lg_sl ([.ref bx, .int (nI h)]) ++ List.replicate (3 - (lg_sl ([.ref bx, .int (nI h)])).length) Slot.unset).toArray = ls at hl ⊢
  have hl : lv_has ls 3 [(0, .ref bx), (1, .int (nI h))] := hl
  have hS : va_S (zA [bx, bw]) s.heap s.heap [] := va_S.rf
  have hDD : zD (zA [bx, bw]) [bx, bw] := ⟨hnd, fun _ h => h⟩
  generalize hQe : MQ below _ _ _ _ _ _ = Q
  refine lv_iconst (v := 0) hx hb dX6_copies_0 (by decide) ?_
  refine lv_istore_n (lv' := [(2, .int 0), (0, .ref bx), (1, .int (nI h))]) hx hb dX6_copies_1 rfl hl (by decide) rfl (fun ls hl => ?_)
  have lp : ∀ (n9 : Nat) (i : Nat) (g : Nat → Int32), i ≤ 32 → (∀ q, q < 32 * h + 32 → g q = Wf q) → (∀ j, j < i → g (32 * h + 32 + j) = Wf (32 * h + j)) → 32 - i < n9 → ∀ (H : Heap) (locs : List Loc), va_P (dC, dI) vwCl [(bx, .inr (3, [.int thr, .int (nI k), .int sI, .int tI, .int wI, .int cI, .ref bl, .ref ba, .ref bt, .ref bg, .ref be, .ref bf, .ref bw, .ref bs, .ref bm, .ref bn, .ref bb, .ref bu, .ref bh])), (bw, .inl (cyI, 160, .inl g))] H → va_S (zA [bx, bw]) s.heap H locs → ∀ ls : Array Slot, lv_has ls 3 [(2, .int (nI i)), (0, .ref bx), (1, .int (nI h))] → W p l e (headSpec wsX6_copies ({ frames := 0, cells := 0, slots := 0, locals := 0 })).room s m ([.ref bx, .int (nI h)] : List Value).toArray below meth c H locs 0 0 Q (F0 m 2 ls []) := by
    intro n9
    induction n9 with
    | zero => intro i g hi2 hg1 hg2 hm9; exact absurd hm9 (Nat.not_lt_zero _)
    | succ n9 ih2 =>
      intro i g hi2 hg1 hg2 hm9 H locs hP hS ls hl
      refine lv_iload_n hx hb dX6_copies_2 rfl (lv_at hl 0 rfl) ?_
      refine lv_bipush (v := 32) hx hb dX6_copies_3 (by decide) ?_
      refine lv_icmp_ge (tgt := 39) hx hb dX6_copies_5 (by decide) (fun c_5 => ?_) (fun c_5 => ?_)
      · skip
        have c_5 : 32 ≤ i := (nI_leI (a := 32) (b := i) (by omega) (by omega)).mp c_5
        subst hQe
        exact W.vret hx hb hr (fun t ht hW => ⟨⟨g, rfl, ⟨hg1, fun j hj => hg2 j (by omega)⟩, zh ht hP⟩, hS.F ht⟩) hS.2.2 dX6_copies_39
      · skip
        have c_5 : ¬ 32 ≤ i := fun h9 => c_5 ((nI_leI (a := 32) (b := i) (by omega) (by omega)).mpr h9)
        refine lv_aload_n hx hb dX6_copies_8 rfl (lv_at hl 1 rfl) ?_
        refine va_get (D := (dC, dI)) (ci := 3) (v := .ref bw) (C := RX6) (T := TX6) (N := 19) hx hb hts hinX6 hown hK hP 0 rfl rfl 12 (by decide) (hts (.fieldLink RX6 35 "RoyalUrTableModel" "walk" "[I") (List.mem_of_getElem? (i := 1) rfl)) (fun _ h9 => h9) rfl dX6_copies_9 ?_
        refine lv_bipush (v := 32) hx hb dX6_copies_12 (by decide) ?_
        refine lv_iload_n hx hb dX6_copies_14 rfl (lv_at hl 2 rfl) ?_
        refine lv_imul hx hb dX6_copies_15 ?_
        refine zz_i (y := nI (32 * h)) (pk_mul 32 h) ?_
        refine lv_bipush (v := 32) hx hb dX6_copies_16 (by decide) ?_
        refine lv_iadd hx hb dX6_copies_18 ?_
        refine zz_i (y := nI (32 * h + 32)) (nI_add (32 * h) 32) ?_
        refine lv_iload_n hx hb dX6_copies_19 rfl (lv_at hl 0 rfl) ?_
        refine lv_iadd hx hb dX6_copies_20 ?_
        refine zz_i (y := nI (32 * h + 32 + i)) (nI_add (32 * h + 32) i) ?_
        refine lv_aload_n hx hb dX6_copies_21 rfl (lv_at hl 1 rfl) ?_
        refine va_get (D := (dC, dI)) (ci := 3) (v := .ref bw) (C := RX6) (T := TX6) (N := 19) hx hb hts hinX6 hown hK hP 0 rfl rfl 12 (by decide) (hts (.fieldLink RX6 35 "RoyalUrTableModel" "walk" "[I") (List.mem_of_getElem? (i := 1) rfl)) (fun _ h9 => h9) rfl dX6_copies_22 ?_
        refine lv_bipush (v := 32) hx hb dX6_copies_25 (by decide) ?_
        refine lv_iload_n hx hb dX6_copies_27 rfl (lv_at hl 2 rfl) ?_
        refine lv_imul hx hb dX6_copies_28 ?_
        refine zz_i (y := nI (32 * h)) (pk_mul 32 h) ?_
        refine lv_iload_n hx hb dX6_copies_29 rfl (lv_at hl 0 rfl) ?_
        refine lv_iadd hx hb dX6_copies_30 ?_
        refine zz_i (y := nI (32 * h + i)) (nI_add (32 * h) i) ?_
        refine zi_iald hx hb hK hP 1 0 rfl rfl (j := 32 * h + i) rfl (by omega) (by decide) dX6_copies_31 ?_
        refine zi_iast hx hb hK hP hDD hS 1 0 rfl rfl (j := 32 * h + 32 + i) rfl (by omega) (by decide) dX6_copies_32 (fun H locs hP hS => ?_)
        have hP : va_P (dC, dI) vwCl [(bx, .inr (3, [.int thr, .int (nI k), .int sI, .int tI, .int wI, .int cI, .ref bl, .ref ba, .ref bt, .ref bg, .ref be, .ref bf, .ref bw, .ref bs, .ref bm, .ref bn, .ref bb, .ref bu, .ref bh])), (bw, .inl (cyI, 160, .inl (upd g (32 * h + 32 + i) (g (32 * h + i)))))] H := hP
        refine lv_iinc (v := nI (i + 1)) (lv' := [(2, .int (nI (i + 1))), (0, .ref bx), (1, .int (nI h))]) hx hb dX6_copies_33 hl (k := 0) rfl (nI_1 i) (by decide) rfl (fun ls hl => ?_)
        refine lv_goto (tgt := 2) hx hb dX6_copies_36 (by decide) ?_
        exact ih2 (i + 1) _ (by omega) (zkeep hg1 (by omega)) (zcp_s hg2 (hg1 _ (by omega))) (by omega) _ _ hP hS _ (lv_sub hl [0, 1, 2] rfl)
  exact lp 33 0 Wf (by omega) (fun _ _ => rfl) (fun _ h => absurd h (Nat.not_lt_zero _)) (by omega) _ _ hP hS _ (lv_sub hl [0, 1, 2] rfl)

set_option maxHeartbeats 4000000 in
set_option maxRecDepth 100000 in
theorem c_X6_lays (l : Launch) (dC : Nat → ClassId) (dI : Nat → Nat → Nat) (cyI cyJ : ClassId) (k : Nat) (bx bl ba bt bg be bf bw bs bm bn bb bu bh : Nat) (thr sI tI wI cI : Int32) (Wf Af : Nat → Int32) (hnd : [bx, ba, bw].Nodup) : Met l yX6_lays wsX6_lays ({ frames := 0, cells := 0, slots := 0, locals := 0 }) (zPc [.ref bx] (dC, dI) vwCl [(cyI, .int), (cyJ, .long)] [(bx, .inr (3, [.int thr, .int (nI k), .int sI, .int tI, .int wI, .int cI, .ref bl, .ref ba, .ref bt, .ref bg, .ref be, .ref bf, .ref bw, .ref bs, .ref bm, .ref bn, .ref bb, .ref bu, .ref bh])), (ba, .inl (cyI, 32, .inl Af)), (bw, .inl (cyI, 160, .inl Wf))] (fun _ => True)) (va_Qv (fun (u : Nat → Int32) => ∀ q, q < 32 → u q = Af q) (fun (u : Nat → Int32) t => va_P (dC, dI) vwCl ([(bx, .inr (3, [.int thr, .int (nI k), .int sI, .int tI, .int wI, .int cI, .ref bl, .ref ba, .ref bt, .ref bg, .ref be, .ref bf, .ref bw, .ref bs, .ref bm, .ref bn, .ref bb, .ref bu, .ref bh])), (ba, .inl (cyI, 32, .inl Af)), (bw, .inl (cyI, 160, .inl u))]) t.heap) (zA [bx, ba, bw])) 0 0 (zA [bx, ba, bw]) := by
  refine Met.ofW (cc := cX6_lays) (maxL := 2) (ret := none) (by decide) rfl ?_
  intro p e s m args below meth c s₁ B hml hv
  obtain ⟨rfl, hP, hK, hX⟩ := hv
  have hx := B.exec
  have hb := B.bytes
  have hr := B.returns
  have hts := atoms_spec (ws := wsX6_lays) B.pre
  have hown : s.vm.findClass RX6 = some m.cls := findClass_of_methodNamed B.named
  have hlocks := B.notSynchronized
  have hinX6 : ∀ w ∈ wsX60, w ∈ wsX6_lays := by decide +kernel
  have hl := lv_entry ([.ref bx]) (n := 2) (Nat.le_of_ble_eq_true rfl)
  rw [lg_entry_eq]
  generalize (lg_sl ([.ref bx]) ++ List.replicate (2 - (lg_sl ([.ref bx])).length) Slot.unset).toArray = ls at hl ⊢
  have hl : lv_has ls 2 [(0, .ref bx)] := hl
  have hS : va_S (zA [bx, ba, bw]) s.heap s.heap [] := va_S.rf
  have hDD : zD (zA [bx, ba, bw]) [bx, ba, bw] := ⟨hnd, fun _ h => h⟩
  generalize hQe : MQ below _ _ _ _ _ _ = Q
  refine lv_iconst (v := 0) hx hb dX6_lays_0 (by decide) ?_
  refine lv_istore_n (lv' := [(1, .int 0), (0, .ref bx)]) hx hb dX6_lays_1 rfl hl (by decide) rfl (fun ls hl => ?_)
  have lp : ∀ (n9 : Nat) (i : Nat) (g : Nat → Int32), i ≤ 32 → (∀ q, q < i → g q = Af q) → 32 - i < n9 → ∀ (H : Heap) (locs : List Loc), va_P (dC, dI) vwCl [(bx, .inr (3, [.int thr, .int (nI k), .int sI, .int tI, .int wI, .int cI, .ref bl, .ref ba, .ref bt, .ref bg, .ref be, .ref bf, .ref bw, .ref bs, .ref bm, .ref bn, .ref bb, .ref bu, .ref bh])), (ba, .inl (cyI, 32, .inl Af)), (bw, .inl (cyI, 160, .inl g))] H → va_S (zA [bx, ba, bw]) s.heap H locs → ∀ ls : Array Slot, lv_has ls 2 [(1, .int (nI i)), (0, .ref bx)] → W p l e (headSpec wsX6_lays ({ frames := 0, cells := 0, slots := 0, locals := 0 })).room s m ([.ref bx] : List Value).toArray below meth c H locs 0 0 Q (F0 m 2 ls []) := by
    intro n9
    induction n9 with
    | zero => intro i g hi2 hg1 hm9; exact absurd hm9 (Nat.not_lt_zero _)
    | succ n9 ih2 =>
      intro i g hi2 hg1 hm9 H locs hP hS ls hl
      refine lv_iload_n hx hb dX6_lays_2 rfl (lv_at hl 0 rfl) ?_
      refine lv_bipush (v := 32) hx hb dX6_lays_3 (by decide) ?_
      refine lv_icmp_ge (tgt := 26) hx hb dX6_lays_5 (by decide) (fun c_5 => ?_) (fun c_5 => ?_)
      · skip
        have c_5 : 32 ≤ i := (nI_leI (a := 32) (b := i) (by omega) (by omega)).mp c_5
        subst hQe
        exact W.vret hx hb hr (fun t ht hW => ⟨⟨g, rfl, (fun q hq => hg1 q (by omega)), zh ht hP⟩, hS.F ht⟩) hS.2.2 dX6_lays_26
      · skip
        have c_5 : ¬ 32 ≤ i := fun h9 => c_5 ((nI_leI (a := 32) (b := i) (by omega) (by omega)).mpr h9)
        refine lv_aload_n hx hb dX6_lays_8 rfl (lv_at hl 1 rfl) ?_
        refine va_get (D := (dC, dI)) (ci := 3) (v := .ref bw) (C := RX6) (T := TX6) (N := 19) hx hb hts hinX6 hown hK hP 0 rfl rfl 12 (by decide) (hts (.fieldLink RX6 35 "RoyalUrTableModel" "walk" "[I") (List.mem_of_getElem? (i := 1) rfl)) (fun _ h9 => h9) rfl dX6_lays_9 ?_
        refine lv_iload_n hx hb dX6_lays_12 rfl (lv_at hl 0 rfl) ?_
        refine lv_aload_n hx hb dX6_lays_13 rfl (lv_at hl 1 rfl) ?_
        refine va_get (D := (dC, dI)) (ci := 3) (v := .ref ba) (C := RX6) (T := TX6) (N := 19) hx hb hts hinX6 hown hK hP 0 rfl rfl 7 (by decide) (hts (.fieldLink RX6 20 "RoyalUrTableModel" "at" "[I") (List.mem_of_getElem? (i := 2) rfl)) (fun _ h9 => h9) rfl dX6_lays_14 ?_
        refine lv_iload_n hx hb dX6_lays_17 rfl (lv_at hl 0 rfl) ?_
        refine zi_iald hx hb hK hP 1 0 rfl rfl (j := i) rfl (by omega) (by decide) dX6_lays_18 ?_
        refine zi_iast hx hb hK hP hDD hS 2 0 rfl rfl (j := i) rfl (by omega) (by decide) dX6_lays_19 (fun H locs hP hS => ?_)
        have hP : va_P (dC, dI) vwCl [(bx, .inr (3, [.int thr, .int (nI k), .int sI, .int tI, .int wI, .int cI, .ref bl, .ref ba, .ref bt, .ref bg, .ref be, .ref bf, .ref bw, .ref bs, .ref bm, .ref bn, .ref bb, .ref bu, .ref bh])), (ba, .inl (cyI, 32, .inl Af)), (bw, .inl (cyI, 160, .inl (upd g i (Af i))))] H := hP
        refine lv_iinc (v := nI (i + 1)) (lv' := [(1, .int (nI (i + 1))), (0, .ref bx)]) hx hb dX6_lays_20 hl (k := 0) rfl (nI_1 i) (by decide) rfl (fun ls hl => ?_)
        refine lv_goto (tgt := 2) hx hb dX6_lays_23 (by decide) ?_
        exact ih2 (i + 1) _ (by omega) (zcp_0 hg1 rfl) (by omega) _ _ hP hS _ (lv_sub hl [0, 1] rfl)
  exact lp 33 0 Wf (by omega) (fun _ h => absurd h (Nat.not_lt_zero _)) (by omega) _ _ hP hS _ (lv_sub hl [0, 1] rfl)

set_option maxHeartbeats 4000000 in
set_option maxRecDepth 100000 in
theorem c_X6_takes (l : Launch) (dC : Nat → ClassId) (dI : Nat → Nat → Nat) (cyI cyJ : ClassId) (k : Nat) (bx bl ba bt bg be bf bw bs bm bn bb bu bh : Nat) (thr sI tI wI cI : Int32) (Sf Bf : Nat → Int32) (h : Nat) (hh : h < 5) (s8 w9 : Int32) (hnd : [bx, bs, bb].Nodup) : Met l yX6_takes wsX6_takes ({ frames := 0, cells := 0, slots := 0, locals := 0 }) (zPc [.ref bx, .int (nI h), .int s8, .int w9] (dC, dI) vwCl [(cyI, .int), (cyJ, .long)] [(bx, .inr (3, [.int thr, .int (nI k), .int sI, .int tI, .int wI, .int cI, .ref bl, .ref ba, .ref bt, .ref bg, .ref be, .ref bf, .ref bw, .ref bs, .ref bm, .ref bn, .ref bb, .ref bu, .ref bh])), (bs, .inl (cyI, 5, .inl Sf)), (bb, .inl (cyI, 5, .inl Bf))] (fun _ => True)) (va_Qv (fun (_ : Unit) => True) (fun (u : Unit) t => va_P (dC, dI) vwCl ([(bx, .inr (3, [.int thr, .int (nI k), .int sI, .int tI, .int wI, .int cI, .ref bl, .ref ba, .ref bt, .ref bg, .ref be, .ref bf, .ref bw, .ref bs, .ref bm, .ref bn, .ref bb, .ref bu, .ref bh])), (bs, .inl (cyI, 5, .inl Sf)), (bb, .inl (cyI, 5, .inl (upd Bf h (zMx (Bf h) (zIts (Sf h) s8 w9)))))]) t.heap) (zA [bx, bs, bb])) 0 0 (zA [bx, bs, bb]) := by
  refine Met.ofW (cc := cX6_takes) (maxL := 5) (ret := none) (by decide) rfl ?_
  intro p e s m args below meth c s₁ B hml hv
  obtain ⟨rfl, hP, hK, hX⟩ := hv
  have hx := B.exec
  have hb := B.bytes
  have hr := B.returns
  have hts := atoms_spec (ws := wsX6_takes) B.pre
  have hown : s.vm.findClass RX6 = some m.cls := findClass_of_methodNamed B.named
  have hlocks := B.notSynchronized
  have hinX6 : ∀ w ∈ wsX60, w ∈ wsX6_takes := by decide +kernel
  have hl := lv_entry ([.ref bx, .int (nI h), .int s8, .int w9]) (n := 5) (Nat.le_of_ble_eq_true rfl)
  rw [lg_entry_eq]
  generalize (lg_sl ([.ref bx, .int (nI h), .int s8, .int w9]) ++ List.replicate (5 - (lg_sl ([.ref bx, .int (nI h), .int s8, .int w9])).length) Slot.unset).toArray = ls at hl ⊢
  have hl : lv_has ls 5 [(0, .ref bx), (1, .int (nI h)), (2, .int s8), (3, .int w9)] := hl
  have hS : va_S (zA [bx, bs, bb]) s.heap s.heap [] := va_S.rf
  have hDD : zD (zA [bx, bs, bb]) [bx, bs, bb] := ⟨hnd, fun _ h => h⟩
  refine lv_aload_n hx hb dX6_takes_0 rfl (lv_at hl 0 rfl) ?_
  refine va_get (D := (dC, dI)) (ci := 3) (v := .ref bs) (C := RX6) (T := TX6) (N := 19) hx hb hts hinX6 hown hK hP 0 rfl rfl 13 (by decide) (hts (.fieldLink RX6 38 "RoyalUrTableModel" "sides" "[I") (List.mem_of_getElem? (i := 1) rfl)) (fun _ h9 => h9) rfl dX6_takes_1 ?_
  refine lv_iload_n hx hb dX6_takes_4 rfl (lv_at hl 1 rfl) ?_
  refine zi_iald hx hb hK hP 1 0 rfl rfl (j := h) rfl (by omega) (by decide) dX6_takes_5 ?_
  refine lv_iload_n hx hb dX6_takes_6 rfl (lv_at hl 2 rfl) ?_
  refine lv_icmp_ne (tgt := 14) hx hb dX6_takes_7 (by decide) (fun c_7 => ?_) (fun c_7 => ?_)
  · skip
    refine lv_ldc (v := 1000000000) hx hb hown (hts (.constant RX6 71 (1000000000)) (List.mem_of_getElem? (i := 2) rfl)) dX6_takes_14 ?_
    refine lv_iload_n hx hb dX6_takes_16 rfl (lv_at hl 3 rfl) ?_
    refine lv_isub hx hb dX6_takes_17 ?_
    refine lv_istore (lv' := [(4, .int (1000000000 - w9)), (0, .ref bx), (1, .int (nI h)), (2, .int s8), (3, .int w9)]) hx hb dX6_takes_18 hl (by decide) rfl (fun ls hl => ?_)
    refine lv_aload_n hx hb dX6_takes_20 rfl (lv_at hl 1 rfl) ?_
    refine va_get (D := (dC, dI)) (ci := 3) (v := .ref bb) (C := RX6) (T := TX6) (N := 19) hx hb hts hinX6 hown hK hP 0 rfl rfl 16 (by decide) (hts (.fieldLink RX6 47 "RoyalUrTableModel" "best" "[I") (List.mem_of_getElem? (i := 3) rfl)) (fun _ h9 => h9) rfl dX6_takes_21 ?_
    refine lv_iload_n hx hb dX6_takes_24 rfl (lv_at hl 2 rfl) ?_
    refine lv_iload hx hb dX6_takes_25 (lv_at hl 0 rfl) ?_
    refine lv_aload_n hx hb dX6_takes_27 rfl (lv_at hl 1 rfl) ?_
    refine va_get (D := (dC, dI)) (ci := 3) (v := .ref bb) (C := RX6) (T := TX6) (N := 19) hx hb hts hinX6 hown hK hP 0 rfl rfl 16 (by decide) (hts (.fieldLink RX6 47 "RoyalUrTableModel" "best" "[I") (List.mem_of_getElem? (i := 3) rfl)) (fun _ h9 => h9) rfl dX6_takes_28 ?_
    refine lv_iload_n hx hb dX6_takes_31 rfl (lv_at hl 2 rfl) ?_
    refine zi_iald hx hb hK hP 2 0 rfl rfl (j := h) rfl (by omega) (by decide) dX6_takes_32 ?_
    refine lv_icmp_le (tgt := 41) hx hb dX6_takes_33 (by decide) (fun c_33 => ?_) (fun c_33 => ?_)
    · skip
      refine lv_aload_n hx hb dX6_takes_41 rfl (lv_at hl 1 rfl) ?_
      refine va_get (D := (dC, dI)) (ci := 3) (v := .ref bb) (C := RX6) (T := TX6) (N := 19) hx hb hts hinX6 hown hK hP 0 rfl rfl 16 (by decide) (hts (.fieldLink RX6 47 "RoyalUrTableModel" "best" "[I") (List.mem_of_getElem? (i := 3) rfl)) (fun _ h9 => h9) rfl dX6_takes_42 ?_
      refine lv_iload_n hx hb dX6_takes_45 rfl (lv_at hl 2 rfl) ?_
      refine zi_iald hx hb hK hP 2 0 rfl rfl (j := h) rfl (by omega) (by decide) dX6_takes_46 ?_
      refine zi_iast hx hb hK hP hDD hS 2 0 rfl rfl (j := h) rfl (by omega) (by decide) dX6_takes_47 (fun H locs hP hS => ?_)
      have hP : va_P (dC, dI) vwCl [(bx, .inr (3, [.int thr, .int (nI k), .int sI, .int tI, .int wI, .int cI, .ref bl, .ref ba, .ref bt, .ref bg, .ref be, .ref bf, .ref bw, .ref bs, .ref bm, .ref bn, .ref bb, .ref bu, .ref bh])), (bs, .inl (cyI, 5, .inl Sf)), (bb, .inl (cyI, 5, .inl (upd Bf h (Bf h))))] H := hP
      exact W.vret hx hb hr (fun t ht hW => ⟨⟨(), rfl, trivial, zh ht (by rw [zIts, if_neg c_7, zMx, if_neg (Int32.not_lt.mpr c_33)]; exact hP)⟩, hS.F ht⟩) hS.2.2 dX6_takes_48
    · skip
      refine lv_iload hx hb dX6_takes_36 (lv_at hl 0 rfl) ?_
      refine lv_goto (tgt := 47) hx hb dX6_takes_38 (by decide) ?_
      refine zi_iast hx hb hK hP hDD hS 2 0 rfl rfl (j := h) rfl (by omega) (by decide) dX6_takes_47 (fun H locs hP hS => ?_)
      have hP : va_P (dC, dI) vwCl [(bx, .inr (3, [.int thr, .int (nI k), .int sI, .int tI, .int wI, .int cI, .ref bl, .ref ba, .ref bt, .ref bg, .ref be, .ref bf, .ref bw, .ref bs, .ref bm, .ref bn, .ref bb, .ref bu, .ref bh])), (bs, .inl (cyI, 5, .inl Sf)), (bb, .inl (cyI, 5, .inl (upd Bf h (1000000000 - w9))))] H := hP
      exact W.vret hx hb hr (fun t ht hW => ⟨⟨(), rfl, trivial, zh ht (by rw [zIts, if_neg c_7, zMx, if_pos (Int32.not_le.mp c_33)]; exact hP)⟩, hS.F ht⟩) hS.2.2 dX6_takes_48
  · skip
    refine lv_iload_n hx hb dX6_takes_10 rfl (lv_at hl 3 rfl) ?_
    refine lv_goto (tgt := 18) hx hb dX6_takes_11 (by decide) ?_
    refine lv_istore (lv' := [(4, .int w9), (0, .ref bx), (1, .int (nI h)), (2, .int s8), (3, .int w9)]) hx hb dX6_takes_18 hl (by decide) rfl (fun ls hl => ?_)
    refine lv_aload_n hx hb dX6_takes_20 rfl (lv_at hl 1 rfl) ?_
    refine va_get (D := (dC, dI)) (ci := 3) (v := .ref bb) (C := RX6) (T := TX6) (N := 19) hx hb hts hinX6 hown hK hP 0 rfl rfl 16 (by decide) (hts (.fieldLink RX6 47 "RoyalUrTableModel" "best" "[I") (List.mem_of_getElem? (i := 3) rfl)) (fun _ h9 => h9) rfl dX6_takes_21 ?_
    refine lv_iload_n hx hb dX6_takes_24 rfl (lv_at hl 2 rfl) ?_
    refine lv_iload hx hb dX6_takes_25 (lv_at hl 0 rfl) ?_
    refine lv_aload_n hx hb dX6_takes_27 rfl (lv_at hl 1 rfl) ?_
    refine va_get (D := (dC, dI)) (ci := 3) (v := .ref bb) (C := RX6) (T := TX6) (N := 19) hx hb hts hinX6 hown hK hP 0 rfl rfl 16 (by decide) (hts (.fieldLink RX6 47 "RoyalUrTableModel" "best" "[I") (List.mem_of_getElem? (i := 3) rfl)) (fun _ h9 => h9) rfl dX6_takes_28 ?_
    refine lv_iload_n hx hb dX6_takes_31 rfl (lv_at hl 2 rfl) ?_
    refine zi_iald hx hb hK hP 2 0 rfl rfl (j := h) rfl (by omega) (by decide) dX6_takes_32 ?_
    refine lv_icmp_le (tgt := 41) hx hb dX6_takes_33 (by decide) (fun c_33 => ?_) (fun c_33 => ?_)
    · skip
      refine lv_aload_n hx hb dX6_takes_41 rfl (lv_at hl 1 rfl) ?_
      refine va_get (D := (dC, dI)) (ci := 3) (v := .ref bb) (C := RX6) (T := TX6) (N := 19) hx hb hts hinX6 hown hK hP 0 rfl rfl 16 (by decide) (hts (.fieldLink RX6 47 "RoyalUrTableModel" "best" "[I") (List.mem_of_getElem? (i := 3) rfl)) (fun _ h9 => h9) rfl dX6_takes_42 ?_
      refine lv_iload_n hx hb dX6_takes_45 rfl (lv_at hl 2 rfl) ?_
      refine zi_iald hx hb hK hP 2 0 rfl rfl (j := h) rfl (by omega) (by decide) dX6_takes_46 ?_
      refine zi_iast hx hb hK hP hDD hS 2 0 rfl rfl (j := h) rfl (by omega) (by decide) dX6_takes_47 (fun H locs hP hS => ?_)
      have hP : va_P (dC, dI) vwCl [(bx, .inr (3, [.int thr, .int (nI k), .int sI, .int tI, .int wI, .int cI, .ref bl, .ref ba, .ref bt, .ref bg, .ref be, .ref bf, .ref bw, .ref bs, .ref bm, .ref bn, .ref bb, .ref bu, .ref bh])), (bs, .inl (cyI, 5, .inl Sf)), (bb, .inl (cyI, 5, .inl (upd Bf h (Bf h))))] H := hP
      exact W.vret hx hb hr (fun t ht hW => ⟨⟨(), rfl, trivial, zh ht (by rw [zIts, if_pos c_7, zMx, if_neg (Int32.not_lt.mpr c_33)]; exact hP)⟩, hS.F ht⟩) hS.2.2 dX6_takes_48
    · skip
      refine lv_iload hx hb dX6_takes_36 (lv_at hl 0 rfl) ?_
      refine lv_goto (tgt := 47) hx hb dX6_takes_38 (by decide) ?_
      refine zi_iast hx hb hK hP hDD hS 2 0 rfl rfl (j := h) rfl (by omega) (by decide) dX6_takes_47 (fun H locs hP hS => ?_)
      have hP : va_P (dC, dI) vwCl [(bx, .inr (3, [.int thr, .int (nI k), .int sI, .int tI, .int wI, .int cI, .ref bl, .ref ba, .ref bt, .ref bg, .ref be, .ref bf, .ref bw, .ref bs, .ref bm, .ref bn, .ref bb, .ref bu, .ref bh])), (bs, .inl (cyI, 5, .inl Sf)), (bb, .inl (cyI, 5, .inl (upd Bf h w9)))] H := hP
      exact W.vret hx hb hr (fun t ht hW => ⟨⟨(), rfl, trivial, zh ht (by rw [zIts, if_pos c_7, zMx, if_pos (Int32.not_le.mp c_33)]; exact hP)⟩, hS.F ht⟩) hS.2.2 dX6_takes_48

set_option maxHeartbeats 4000000 in
set_option maxRecDepth 100000 in
theorem c_X6_fails (l : Launch) (dC : Nat → ClassId) (dI : Nat → Nat → Nat) (cyI cyJ : ClassId) (k : Nat) (bx bl ba bt bg be bf bw bs bm bn bb bu bh : Nat) (thr sI tI wI cI : Int32) (v9 : Int32) (hnd : [bx].Nodup) : Met l yX6_fails wsX6_fails ({ frames := 0, cells := 0, slots := 0, locals := 0 }) (zPc [.ref bx, .int v9] (dC, dI) vwCl [(cyI, .int), (cyJ, .long)] [(bx, .inr (3, [.int thr, .int (nI k), .int sI, .int tI, .int wI, .int cI, .ref bl, .ref ba, .ref bt, .ref bg, .ref be, .ref bf, .ref bw, .ref bs, .ref bm, .ref bn, .ref bb, .ref bu, .ref bh]))] (fun _ => True)) (va_Qi (fun (r : Int32) (_ : Unit) => r = 0) (fun (u : Unit) t => va_P (dC, dI) vwCl ([(bx, .inr (3, [.int v9, .int (nI k), .int sI, .int tI, .int wI, .int cI, .ref bl, .ref ba, .ref bt, .ref bg, .ref be, .ref bf, .ref bw, .ref bs, .ref bm, .ref bn, .ref bb, .ref bu, .ref bh]))]) t.heap) (zA [bx])) 0 0 (zA [bx]) := by
  refine Met.ofW (cc := cX6_fails) (maxL := 2) (ret := (some .int)) (by decide) rfl ?_
  intro p e s m args below meth c s₁ B hml hv
  obtain ⟨rfl, hP, hK, hX⟩ := hv
  have hx := B.exec
  have hb := B.bytes
  have hr := B.returns
  have hts := atoms_spec (ws := wsX6_fails) B.pre
  have hown : s.vm.findClass RX6 = some m.cls := findClass_of_methodNamed B.named
  have hlocks := B.notSynchronized
  have hinX6 : ∀ w ∈ wsX60, w ∈ wsX6_fails := by decide +kernel
  have hl := lv_entry ([.ref bx, .int v9]) (n := 2) (Nat.le_of_ble_eq_true rfl)
  rw [lg_entry_eq]
  generalize (lg_sl ([.ref bx, .int v9]) ++ List.replicate (2 - (lg_sl ([.ref bx, .int v9])).length) Slot.unset).toArray = ls at hl ⊢
  have hl : lv_has ls 2 [(0, .ref bx), (1, .int v9)] := hl
  have hS : va_S (zA [bx]) s.heap s.heap [] := va_S.rf
  have hDD : zD (zA [bx]) [bx] := ⟨hnd, fun _ h => h⟩
  refine lv_aload_n hx hb dX6_fails_0 rfl (lv_at hl 0 rfl) ?_
  refine lv_iload_n hx hb dX6_fails_1 rfl (lv_at hl 1 rfl) ?_
  refine va_put (D := (dC, dI)) (ci := 3) (v := .int v9) (ty := .int) (C := RX6) (T := TX6) (N := 19) hx hb hts hinX6 tyX6 tyX6_ok nmX6 hown hK hP (hDD.va rfl) hS 0 rfl rfl 0 (by decide) (hts (.fieldLink RX6 64 "RoyalUrTableModel" "thrown" "I") (List.mem_of_getElem? (i := 1) rfl)) (fun _ h9 => h9) rfl (by decide +kernel) rfl rfl (Nat.le_of_ble_eq_true rfl) dX6_fails_2 (fun H locs hP hD9 hS => ?_)
  have hP : va_P (dC, dI) vwCl [(bx, .inr (3, [.int v9, .int (nI k), .int sI, .int tI, .int wI, .int cI, .ref bl, .ref ba, .ref bt, .ref bg, .ref be, .ref bf, .ref bw, .ref bs, .ref bm, .ref bn, .ref bb, .ref bu, .ref bh]))] H := hP
  refine lv_iconst (v := 0) hx hb dX6_fails_5 (by decide) ?_
  exact W.iret (v := 0) hx hb hr (fun t ht hW => ⟨⟨_, (), rfl, rfl, zh ht hP⟩, hS.F ht⟩) hS.2.2 dX6_fails_6

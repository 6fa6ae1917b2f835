theorem zin_1 {v lo hi : Int32} (h2 : ¬ v < lo) (h7 : ¬ hi < v) : (decide (lo ≤ v) && decide (v ≤ hi)) = true := by
  rw [decide_eq_true (Int32.not_lt.mp h2), decide_eq_true (Int32.not_lt.mp h7)]; rfl
theorem zin_0a {v lo hi : Int32} (h2 : v < lo) : (decide (lo ≤ v) && decide (v ≤ hi)) = false := by
  rw [decide_eq_false (Int32.not_le.mpr h2)]; rfl
theorem zin_0b {v lo hi : Int32} (_ : ¬ v < lo) (h7 : hi < v) : (decide (lo ≤ v) && decide (v ≤ hi)) = false := by
  rw [decide_eq_false (p := v ≤ hi) (Int32.not_le.mpr h7), Bool.and_false]
/-- the marks that were told, or none -/
def zmk (mk : Int32) (mm : Nat) : Prop := mk = nI mm ∨ (mk = -1 ∧ mm = 0)
theorem zmk_le {mk : Int32} {mm : Nat} (h : zmk mk mm) (hm : mm ≤ 4) (c : mk ≤ 0) : mm = 0 := by
  rcases h with h | h
  · rw [h] at c
    have := (nI_leI (a := mm) (b := 0) (by omega) (by omega)).mp c
    omega
  · exact h.2
theorem zmk_gt {mk : Int32} {mm : Nat} (h : zmk mk mm) (c : ¬ mk ≤ 0) : 0 < mm := by
  rcases h with h | h
  · rcases Nat.eq_zero_or_pos mm with e | e
    · rw [h, e] at c; exact absurd (by decide) c
    · exact e
  · rw [h.1] at c; exact absurd (by decide) c
theorem zmk_eq {mk : Int32} {mm : Nat} (h : zmk mk mm) (c : 0 < mm) : mk = nI mm := by
  rcases h with h | h
  · exact h
  · omega
theorem zcm_c {own oth fr mm : Nat} {a b : Bool} (h0 : 0 < mm) (h1 : 0 < dg own fr) (ha : 0 < dg own (fr + mm) ↔ a = true) (hb : 0 < dg oth (fr + mm) ↔ b = true) : zcen (fr + mm) a b = zcm own oth fr mm := by
  have e1 : decide (0 < dg own (fr + mm)) = a := by cases a <;> simp_all
  have e2 : decide (0 < dg oth (fr + mm)) = b := by cases b <;> simp_all
  rw [zcm, e1, e2, decide_eq_true h0, decide_eq_true h1]
  rfl
abbrev zG0 : va_G := (fun _ => 0, fun _ _ => 0)
set_option maxHeartbeats 4000000 in
set_option maxRecDepth 100000 in
theorem c_X4_isRosette (l : Launch) (pl : Nat) (hp : pl < 1000)  : Met l yX4_isRosette wsX4_isRosette ({ frames := 0, cells := 0, slots := 0, locals := 0 }) (va_Pc [.int (nI pl)] (fun _ => True)) (va_Qi (fun (r : Int32) (_ : Unit) => r = bI (zros pl)) (fun _ _ => True) zF) 0 0 zF := by
  refine Met.ofW (cc := cX4_isRosette) (maxL := 1) (ret := (some .boolean)) (by decide) rfl ?_
  intro p e s m args below meth c s₁ B hml hv
  obtain ⟨rfl, -⟩ := hv
  have hx := B.exec
  have hb := B.bytes
  have hr := B.returns
  have hts := atoms_spec (ws := wsX4_isRosette) B.pre
  have hown : s.vm.findClass RX4 = some m.cls := findClass_of_methodNamed B.named
  have hlocks := B.notSynchronized
  have hl := lv_entry ([.int (nI pl)]) (n := 1) (Nat.le_of_ble_eq_true rfl)
  rw [lg_entry_eq]
  generalize (lg_sl ([.int (nI pl)]) ++ List.replicate (1 - (lg_sl ([.int (nI pl)])).length) Slot.unset).toArray = ls at hl ⊢
  have hl : lv_has ls 1 [(0, .int (nI pl))] := hl
  have hP : va_P zG0 [] [] s.heap := fun k q h => by simp at h
  have hS : va_S zF s.heap s.heap [] := va_S.rf
  refine lv_iload_n hx hb dX4_isRosette_0 rfl (lv_at hl 0 rfl) ?_
  refine lv_iconst (v := 4) hx hb dX4_isRosette_1 (by decide) ?_
  refine lv_icmp_eq (tgt := 17) hx hb dX4_isRosette_2 (by decide) (fun c_2 => ?_) (fun c_2 => ?_)
  · skip
    have c_2 : pl = 4 := (nI_eq (a := pl) (b := 4) (by omega) (by omega)).mp c_2
    refine lv_iconst (v := 1) hx hb dX4_isRosette_17 (by decide) ?_
    refine lv_goto (tgt := 22) hx hb dX4_isRosette_18 (by decide) ?_
    exact W.zret (v := 1) hx hb hr rfl (fun t ht hW => ⟨⟨_, (), rfl, (bI_t (by simp [zros, c_2] <;> omega)), trivial⟩, hS.F ht⟩) hS.2.2 dX4_isRosette_22
  · skip
    have c_2 : ¬ pl = 4 := fun h9 => c_2 ((nI_eq (a := pl) (b := 4) (by omega) (by omega)).mpr h9)
    refine lv_iload_n hx hb dX4_isRosette_5 rfl (lv_at hl 0 rfl) ?_
    refine lv_bipush (v := 8) hx hb dX4_isRosette_6 (by decide) ?_
    refine lv_icmp_eq (tgt := 17) hx hb dX4_isRosette_8 (by decide) (fun c_8 => ?_) (fun c_8 => ?_)
    · skip
      have c_8 : pl = 8 := (nI_eq (a := pl) (b := 8) (by omega) (by omega)).mp c_8
      refine lv_iconst (v := 1) hx hb dX4_isRosette_17 (by decide) ?_
      refine lv_goto (tgt := 22) hx hb dX4_isRosette_18 (by decide) ?_
      exact W.zret (v := 1) hx hb hr rfl (fun t ht hW => ⟨⟨_, (), rfl, (bI_t (by simp [zros, c_2, c_8] <;> omega)), trivial⟩, hS.F ht⟩) hS.2.2 dX4_isRosette_22
    · skip
      have c_8 : ¬ pl = 8 := fun h9 => c_8 ((nI_eq (a := pl) (b := 8) (by omega) (by omega)).mpr h9)
      refine lv_iload_n hx hb dX4_isRosette_11 rfl (lv_at hl 0 rfl) ?_
      refine lv_bipush (v := 14) hx hb dX4_isRosette_12 (by decide) ?_
      refine lv_icmp_ne (tgt := 21) hx hb dX4_isRosette_14 (by decide) (fun c_14 => ?_) (fun c_14 => ?_)
      · skip
        have c_14 : ¬ pl = 14 := fun h9 => c_14 ((nI_eq (a := pl) (b := 14) (by omega) (by omega)).mpr h9)
        refine lv_iconst (v := 0) hx hb dX4_isRosette_21 (by decide) ?_
        exact W.zret (v := 0) hx hb hr rfl (fun t ht hW => ⟨⟨_, (), rfl, (bI_f (by simp [zros, c_2, c_8, c_14] <;> omega)), trivial⟩, hS.F ht⟩) hS.2.2 dX4_isRosette_22
      · skip
        have c_14 : pl = 14 := (nI_eq (a := pl) (b := 14) (by omega) (by omega)).mp c_14
        refine lv_iconst (v := 1) hx hb dX4_isRosette_17 (by decide) ?_
        refine lv_goto (tgt := 22) hx hb dX4_isRosette_18 (by decide) ?_
        exact W.zret (v := 1) hx hb hr rfl (fun t ht hW => ⟨⟨_, (), rfl, (bI_t (by simp [zros, c_2, c_8, c_14] <;> omega)), trivial⟩, hS.F ht⟩) hS.2.2 dX4_isRosette_22

set_option maxHeartbeats 4000000 in
set_option maxRecDepth 100000 in
theorem c_X4_isShared (l : Launch) (pl : Nat) (hp : pl < 1000)  : Met l yX4_isShared wsX4_isShared ({ frames := 0, cells := 0, slots := 0, locals := 0 }) (va_Pc [.int (nI pl)] (fun _ => True)) (va_Qi (fun (r : Int32) (_ : Unit) => r = bI (zshr pl)) (fun _ _ => True) zF) 0 0 zF := by
  refine Met.ofW (cc := cX4_isShared) (maxL := 1) (ret := (some .boolean)) (by decide) rfl ?_
  intro p e s m args below meth c s₁ B hml hv
  obtain ⟨rfl, -⟩ := hv
  have hx := B.exec
  have hb := B.bytes
  have hr := B.returns
  have hts := atoms_spec (ws := wsX4_isShared) B.pre
  have hown : s.vm.findClass RX4 = some m.cls := findClass_of_methodNamed B.named
  have hlocks := B.notSynchronized
  have hl := lv_entry ([.int (nI pl)]) (n := 1) (Nat.le_of_ble_eq_true rfl)
  rw [lg_entry_eq]
  generalize (lg_sl ([.int (nI pl)]) ++ List.replicate (1 - (lg_sl ([.int (nI pl)])).length) Slot.unset).toArray = ls at hl ⊢
  have hl : lv_has ls 1 [(0, .int (nI pl))] := hl
  have hP : va_P zG0 [] [] s.heap := fun k q h => by simp at h
  have hS : va_S zF s.heap s.heap [] := va_S.rf
  refine lv_iload_n hx hb dX4_isShared_0 rfl (lv_at hl 0 rfl) ?_
  refine lv_iconst (v := 5) hx hb dX4_isShared_1 (by decide) ?_
  refine lv_icmp_lt (tgt := 15) hx hb dX4_isShared_2 (by decide) (fun c_2 => ?_) (fun c_2 => ?_)
  · skip
    have c_2 : pl < 5 := (nI_ltI (a := pl) (b := 5) (by omega) (by omega)).mp c_2
    refine lv_iconst (v := 0) hx hb dX4_isShared_15 (by decide) ?_
    exact W.zret (v := 0) hx hb hr rfl (fun t ht hW => ⟨⟨_, (), rfl, (bI_f (by simp [zshr, c_2] <;> omega)), trivial⟩, hS.F ht⟩) hS.2.2 dX4_isShared_16
  · skip
    have c_2 : ¬ pl < 5 := fun h9 => c_2 ((nI_ltI (a := pl) (b := 5) (by omega) (by omega)).mpr h9)
    refine lv_iload_n hx hb dX4_isShared_5 rfl (lv_at hl 0 rfl) ?_
    refine lv_bipush (v := 12) hx hb dX4_isShared_6 (by decide) ?_
    refine lv_icmp_gt (tgt := 15) hx hb dX4_isShared_8 (by decide) (fun c_8 => ?_) (fun c_8 => ?_)
    · skip
      have c_8 : 12 < pl := (nI_ltI (a := 12) (b := pl) (by omega) (by omega)).mp c_8
      refine lv_iconst (v := 0) hx hb dX4_isShared_15 (by decide) ?_
      exact W.zret (v := 0) hx hb hr rfl (fun t ht hW => ⟨⟨_, (), rfl, (bI_f (by simp [zshr, c_2, c_8] <;> omega)), trivial⟩, hS.F ht⟩) hS.2.2 dX4_isShared_16
    · skip
      have c_8 : ¬ 12 < pl := fun h9 => c_8 ((nI_ltI (a := 12) (b := pl) (by omega) (by omega)).mpr h9)
      refine lv_iconst (v := 1) hx hb dX4_isShared_11 (by decide) ?_
      refine lv_goto (tgt := 16) hx hb dX4_isShared_12 (by decide) ?_
      exact W.zret (v := 1) hx hb hr rfl (fun t ht hW => ⟨⟨_, (), rfl, (bI_t (by simp [zshr, c_2, c_8] <;> omega)), trivial⟩, hS.F ht⟩) hS.2.2 dX4_isShared_16

set_option maxHeartbeats 4000000 in
set_option maxRecDepth 100000 in
theorem c_X4_canEnter (l : Launch) (pl : Nat) (hp : pl < 1000) (ob tb : Bool)  : Met l yX4_canEnter wsX4_canEnter ({ frames := 0, cells := 0, slots := 0, locals := 0 }) (va_Pc [.int (nI pl), .int (bI ob), .int (bI tb)] (fun _ => True)) (va_Qi (fun (r : Int32) (_ : Unit) => r = bI (zcen pl ob tb)) (fun _ _ => True) zF) 0 0 zF := by
  refine Met.ofW (cc := cX4_canEnter) (maxL := 3) (ret := (some .boolean)) (by decide) rfl ?_
  intro p e s m args below meth c s₁ B hml hv
  obtain ⟨rfl, -⟩ := hv
  have hx := B.exec
  have hb := B.bytes
  have hr := B.returns
  have hts := atoms_spec (ws := wsX4_canEnter) B.pre
  have hown : s.vm.findClass RX4 = some m.cls := findClass_of_methodNamed B.named
  have hlocks := B.notSynchronized
  have hl := lv_entry ([.int (nI pl), .int (bI ob), .int (bI tb)]) (n := 3) (Nat.le_of_ble_eq_true rfl)
  rw [lg_entry_eq]
  generalize (lg_sl ([.int (nI pl), .int (bI ob), .int (bI tb)]) ++ List.replicate (3 - (lg_sl ([.int (nI pl), .int (bI ob), .int (bI tb)])).length) Slot.unset).toArray = ls at hl ⊢
  have hl : lv_has ls 3 [(0, .int (nI pl)), (1, .int (bI ob)), (2, .int (bI tb))] := hl
  have hP : va_P zG0 [] [] s.heap := fun k q h => by simp at h
  have hS : va_S zF s.heap s.heap [] := va_S.rf
  refine lv_iload_n hx hb dX4_canEnter_0 rfl (lv_at hl 0 rfl) ?_
  refine lv_bipush (v := 15) hx hb dX4_canEnter_1 (by decide) ?_
  refine lv_icmp_lt (tgt := 18) hx hb dX4_canEnter_3 (by decide) (fun c_3 => ?_) (fun c_3 => ?_)
  · skip
    have c_3 : pl < 15 := (nI_ltI (a := pl) (b := 15) (by omega) (by omega)).mp c_3
    refine lv_iload_n hx hb dX4_canEnter_18 rfl (lv_at hl 1 rfl) ?_
    refine lv_if_ne (tgt := 36) hx hb dX4_canEnter_19 (by decide) (fun c_19 => ?_) (fun c_19 => ?_)
    · skip
      have c_19 := bI_1.mp c_19
      refine lv_iconst (v := 0) hx hb dX4_canEnter_36 (by decide) ?_
      exact W.zret (v := 0) hx hb hr rfl (fun t ht hW => ⟨⟨_, (), rfl, (bI_f (by simp [zcen, c_3, c_19] <;> omega)), trivial⟩, hS.F ht⟩) hS.2.2 dX4_canEnter_37
    · skip
      have c_19 := bI_0.mp c_19
      refine lv_iload_n hx hb dX4_canEnter_22 rfl (lv_at hl 2 rfl) ?_
      refine lv_if_eq (tgt := 32) hx hb dX4_canEnter_23 (by decide) (fun c_23 => ?_) (fun c_23 => ?_)
      · skip
        have c_23 := bI_0.mp c_23
        refine lv_iconst (v := 1) hx hb dX4_canEnter_32 (by decide) ?_
        refine lv_goto (tgt := 37) hx hb dX4_canEnter_33 (by decide) ?_
        exact W.zret (v := 1) hx hb hr rfl (fun t ht hW => ⟨⟨_, (), rfl, (bI_t (by simp [zcen, c_3, c_19, c_23] <;> omega)), trivial⟩, hS.F ht⟩) hS.2.2 dX4_canEnter_37
      · skip
        have c_23 := bI_1.mp c_23
        refine lv_iload_n hx hb dX4_canEnter_26 rfl (lv_at hl 0 rfl) ?_
        refine lv_bipush (v := 8) hx hb dX4_canEnter_27 (by decide) ?_
        refine lv_icmp_eq (tgt := 36) hx hb dX4_canEnter_29 (by decide) (fun c_29 => ?_) (fun c_29 => ?_)
        · skip
          have c_29 : pl = 8 := (nI_eq (a := pl) (b := 8) (by omega) (by omega)).mp c_29
          refine lv_iconst (v := 0) hx hb dX4_canEnter_36 (by decide) ?_
          exact W.zret (v := 0) hx hb hr rfl (fun t ht hW => ⟨⟨_, (), rfl, (bI_f (by simp [zcen, c_3, c_19, c_23, c_29] <;> omega)), trivial⟩, hS.F ht⟩) hS.2.2 dX4_canEnter_37
        · skip
          have c_29 : ¬ pl = 8 := fun h9 => c_29 ((nI_eq (a := pl) (b := 8) (by omega) (by omega)).mpr h9)
          refine lv_iconst (v := 1) hx hb dX4_canEnter_32 (by decide) ?_
          refine lv_goto (tgt := 37) hx hb dX4_canEnter_33 (by decide) ?_
          exact W.zret (v := 1) hx hb hr rfl (fun t ht hW => ⟨⟨_, (), rfl, (bI_t (by simp [zcen, c_3, c_19, c_23, c_29] <;> omega)), trivial⟩, hS.F ht⟩) hS.2.2 dX4_canEnter_37
  · skip
    have c_3 : ¬ pl < 15 := fun h9 => c_3 ((nI_ltI (a := pl) (b := 15) (by omega) (by omega)).mpr h9)
    refine lv_iload_n hx hb dX4_canEnter_6 rfl (lv_at hl 0 rfl) ?_
    refine lv_bipush (v := 15) hx hb dX4_canEnter_7 (by decide) ?_
    refine lv_icmp_ne (tgt := 16) hx hb dX4_canEnter_9 (by decide) (fun c_9 => ?_) (fun c_9 => ?_)
    · skip
      have c_9 : ¬ pl = 15 := fun h9 => c_9 ((nI_eq (a := pl) (b := 15) (by omega) (by omega)).mpr h9)
      refine lv_iconst (v := 0) hx hb dX4_canEnter_16 (by decide) ?_
      exact W.zret (v := 0) hx hb hr rfl (fun t ht hW => ⟨⟨_, (), rfl, (bI_f (by simp [zcen, c_3, c_9] <;> omega)), trivial⟩, hS.F ht⟩) hS.2.2 dX4_canEnter_17
    · skip
      have c_9 : pl = 15 := (nI_eq (a := pl) (b := 15) (by omega) (by omega)).mp c_9
      refine lv_iconst (v := 1) hx hb dX4_canEnter_12 (by decide) ?_
      refine lv_goto (tgt := 17) hx hb dX4_canEnter_13 (by decide) ?_
      exact W.zret (v := 1) hx hb hr rfl (fun t ht hW => ⟨⟨_, (), rfl, (bI_t (by simp [zcen, c_3, c_9] <;> omega)), trivial⟩, hS.F ht⟩) hS.2.2 dX4_canEnter_17

set_option maxHeartbeats 4000000 in
set_option maxRecDepth 100000 in
theorem c_X2_allAtStart (l : Launch) (k : Nat) (hk : k < 1000)  : Met l yX2_allAtStart wsX2_allAtStart ({ frames := 0, cells := 0, slots := 0, locals := 0 }) (va_Pc [.int (nI k)] (fun _ => True)) (va_Ql (fun (r : Int64) (_ : Unit) => r = lN k) (fun _ _ => True) zF) 0 0 zF := by
  refine Met.ofW (cc := cX2_allAtStart) (maxL := 1) (ret := (some .long)) (by decide) rfl ?_
  intro p e s m args below meth c s₁ B hml hv
  obtain ⟨rfl, -⟩ := hv
  have hx := B.exec
  have hb := B.bytes
  have hr := B.returns
  have hts := atoms_spec (ws := wsX2_allAtStart) B.pre
  have hown : s.vm.findClass RX2 = some m.cls := findClass_of_methodNamed B.named
  have hlocks := B.notSynchronized
  have hl := lv_entry ([.int (nI k)]) (n := 1) (Nat.le_of_ble_eq_true rfl)
  rw [lg_entry_eq]
  generalize (lg_sl ([.int (nI k)]) ++ List.replicate (1 - (lg_sl ([.int (nI k)])).length) Slot.unset).toArray = ls at hl ⊢
  have hl : lv_has ls 1 [(0, .int (nI k))] := hl
  have hP : va_P zG0 [] [] s.heap := fun k q h => by simp at h
  have hS : va_S zF s.heap s.heap [] := va_S.rf
  refine lv_iload_n hx hb dX2_allAtStart_0 rfl (lv_at hl 0 rfl) ?_
  refine lv_i2l (v := (nI k : Int32).toInt64) hx hb dX2_allAtStart_1 rfl ?_
  exact W.lret (v := (nI k : Int32).toInt64) hx hb hr (fun t ht hW => ⟨⟨_, (), rfl, (nI_l (by omega)), trivial⟩, hS.F ht⟩) hS.2.2 dX2_allAtStart_2

set_option maxHeartbeats 4000000 in
set_option maxRecDepth 100000 in
theorem c_X2_countAt (l : Launch) (n : Nat) (hn : n < 2 ^ 63) (pl : Nat) (hp : pl < 1000)  : Met l yX2_countAt wsX2_countAt ({ frames := 0, cells := 0, slots := 0, locals := 0 }) (va_Pc [.long (lN n), .int (nI pl)] (fun _ => True)) (va_Qi (fun (r : Int32) (_ : Unit) => r = nI (dg n pl)) (fun _ _ => True) zF) 0 0 zF := by
  refine Met.ofW (cc := cX2_countAt) (maxL := 3) (ret := (some .int)) (by decide) rfl ?_
  intro p e s m args below meth c s₁ B hml hv
  obtain ⟨rfl, -⟩ := hv
  have hx := B.exec
  have hb := B.bytes
  have hr := B.returns
  have hts := atoms_spec (ws := wsX2_countAt) B.pre
  have hown : s.vm.findClass RX2 = some m.cls := findClass_of_methodNamed B.named
  have hlocks := B.notSynchronized
  have hl := lv_entry ([.long (lN n), .int (nI pl)]) (n := 3) (Nat.le_of_ble_eq_true rfl)
  rw [lg_entry_eq]
  generalize (lg_sl ([.long (lN n), .int (nI pl)]) ++ List.replicate (3 - (lg_sl ([.long (lN n), .int (nI pl)])).length) Slot.unset).toArray = ls at hl ⊢
  have hl : lv_has ls 3 [(0, .long (lN n)), (2, .int (nI pl))] := hl
  have hP : va_P zG0 [] [] s.heap := fun k q h => by simp at h
  have hS : va_S zF s.heap s.heap [] := va_S.rf
  refine lv_iload_n hx hb dX2_countAt_0 rfl (lv_at hl 1 rfl) ?_
  refine lv_if_lt (tgt := 10) hx hb dX2_countAt_1 (by decide) (fun c_1 => ?_) (fun c_1 => ?_)
  · skip
    have c_1 : pl < 0 := (nI_ltI (a := pl) (b := 0) (by omega) (by omega)).mp c_1
    refine lv_iconst (v := 0) hx hb dX2_countAt_10 (by decide) ?_
    refine lv_goto (tgt := 23) hx hb dX2_countAt_11 (by decide) ?_
    exact W.iret (v := 0) hx hb hr (fun t ht hW => ⟨⟨_, (), rfl, (by rw [dg_big hn (by omega)]; rfl), trivial⟩, hS.F ht⟩) hS.2.2 dX2_countAt_23
  · skip
    have c_1 : ¬ pl < 0 := fun h9 => c_1 ((nI_ltI (a := pl) (b := 0) (by omega) (by omega)).mpr h9)
    refine lv_iload_n hx hb dX2_countAt_4 rfl (lv_at hl 1 rfl) ?_
    refine lv_bipush (v := 15) hx hb dX2_countAt_5 (by decide) ?_
    refine lv_icmp_le (tgt := 14) hx hb dX2_countAt_7 (by decide) (fun c_7 => ?_) (fun c_7 => ?_)
    · skip
      have c_7 : pl ≤ 15 := (nI_leI (a := pl) (b := 15) (by omega) (by omega)).mp c_7
      refine lv_lload_n hx hb dX2_countAt_14 rfl (lv_at hl 0 rfl) ?_
      refine lv_iconst (v := 4) hx hb dX2_countAt_15 (by decide) ?_
      refine lv_iload_n hx hb dX2_countAt_16 rfl (lv_at hl 1 rfl) ?_
      refine lv_imul hx hb dX2_countAt_17 ?_
      refine zz_i (y := nI (4 * pl)) (pk_mul 4 pl) ?_
      refine lv_lushr (v := ((lN n).toUInt64 >>> ((nI (4 * pl) : Int32).toInt64.toUInt64 &&& Int64.toUInt64 63)).toInt64) hx hb dX2_countAt_18 rfl ?_
      refine zz_l (y := lN (n / 2 ^ (4 * pl))) (wb_shr (by omega) (by omega)) ?_
      refine lv_l2i (v := (lN (n / 2 ^ (4 * pl)) : Int64).toInt32) hx hb dX2_countAt_19 rfl ?_
      refine zz_i (y := nI (n / 2 ^ (4 * pl))) (lN_i _) ?_
      refine lv_bipush (v := 15) hx hb dX2_countAt_20 (by decide) ?_
      refine lv_iand hx hb dX2_countAt_22 ?_
      refine zz_i (y := nI (dg n pl)) (zcnt n pl) ?_
      exact W.iret (v := nI (dg n pl)) hx hb hr (fun t ht hW => ⟨⟨_, (), rfl, rfl, trivial⟩, hS.F ht⟩) hS.2.2 dX2_countAt_23
    · skip
      have c_7 : ¬ pl ≤ 15 := fun h9 => c_7 ((nI_leI (a := pl) (b := 15) (by omega) (by omega)).mpr h9)
      refine lv_iconst (v := 0) hx hb dX2_countAt_10 (by decide) ?_
      refine lv_goto (tgt := 23) hx hb dX2_countAt_11 (by decide) ?_
      exact W.iret (v := 0) hx hb hr (fun t ht hW => ⟨⟨_, (), rfl, (by rw [dg_big hn (by omega)]; rfl), trivial⟩, hS.F ht⟩) hS.2.2 dX2_countAt_23

set_option maxHeartbeats 4000000 in
set_option maxRecDepth 100000 in
theorem c_X2_shifted (l : Launch) (n : Nat) (hn : n < 2 ^ 63) (a b : Nat) (ha : a ≤ 15) (hb0 : b ≤ 15) (hs : 16 ^ a ≤ n)  : Met l yX2_shifted wsX2_shifted ({ frames := 0, cells := 0, slots := 0, locals := 0 }) (va_Pc [.long (lN n), .int (nI a), .int (nI b)] (fun _ => True)) (va_Ql (fun (r : Int64) (_ : Unit) => r = lN (zsh n a b)) (fun _ _ => True) zF) 0 0 zF := by
  refine Met.ofW (cc := cX2_shifted) (maxL := 4) (ret := (some .long)) (by decide) rfl ?_
  intro p e s m args below meth c s₁ B hml hv
  obtain ⟨rfl, -⟩ := hv
  have hx := B.exec
  have hb := B.bytes
  have hr := B.returns
  have hts := atoms_spec (ws := wsX2_shifted) B.pre
  have hown : s.vm.findClass RX2 = some m.cls := findClass_of_methodNamed B.named
  have hlocks := B.notSynchronized
  have hl := lv_entry ([.long (lN n), .int (nI a), .int (nI b)]) (n := 4) (Nat.le_of_ble_eq_true rfl)
  rw [lg_entry_eq]
  generalize (lg_sl ([.long (lN n), .int (nI a), .int (nI b)]) ++ List.replicate (4 - (lg_sl ([.long (lN n), .int (nI a), .int (nI b)])).length) Slot.unset).toArray = ls at hl ⊢
  have hl : lv_has ls 4 [(0, .long (lN n)), (2, .int (nI a)), (3, .int (nI b))] := hl
  have hP : va_P zG0 [] [] s.heap := fun k q h => by simp at h
  have hS : va_S zF s.heap s.heap [] := va_S.rf
  refine lv_lload_n hx hb dX2_shifted_0 rfl (lv_at hl 0 rfl) ?_
  refine lv_lconst (v := 1) hx hb dX2_shifted_1 (by decide) ?_
  refine lv_iconst (v := 4) hx hb dX2_shifted_2 (by decide) ?_
  refine lv_iload_n hx hb dX2_shifted_3 rfl (lv_at hl 1 rfl) ?_
  refine lv_imul hx hb dX2_shifted_4 ?_
  refine zz_i (y := nI (4 * a)) (pk_mul 4 a) ?_
  refine lv_lshl (v := 1 <<< ((nI (4 * a) : Int32).toInt64 &&& 63)) hx hb dX2_shifted_5 rfl ?_
  refine zz_l (y := lN (16 ^ a)) (lN_pw ha) ?_
  refine lv_lsub hx hb dX2_shifted_6 ?_
  refine lv_lconst (v := 1) hx hb dX2_shifted_7 (by decide) ?_
  refine lv_iconst (v := 4) hx hb dX2_shifted_8 (by decide) ?_
  refine lv_iload_n hx hb dX2_shifted_9 rfl (lv_at hl 2 rfl) ?_
  refine lv_imul hx hb dX2_shifted_10 ?_
  refine zz_i (y := nI (4 * b)) (pk_mul 4 b) ?_
  refine lv_lshl (v := 1 <<< ((nI (4 * b) : Int32).toInt64 &&& 63)) hx hb dX2_shifted_11 rfl ?_
  refine zz_l (y := lN (16 ^ b)) (lN_pw hb0) ?_
  refine lv_ladd hx hb dX2_shifted_12 ?_
  exact W.lret (v := ((lN n) - (lN (16 ^ a))) + (lN (16 ^ b))) hx hb hr (fun t ht hW => ⟨⟨_, (), rfl, (lN_sh hs), trivial⟩, hS.F ht⟩) hS.2.2 dX2_shifted_13

set_option maxHeartbeats 4000000 in
set_option maxRecDepth 100000 in
theorem c_X2_isAllHome (l : Launch) (n : Nat) (hn : n < 2 ^ 63)  : Met l yX2_isAllHome wsX2_isAllHome ({ frames := 0, cells := 0, slots := 0, locals := 0 }) (va_Pc [.long (lN n)] (fun _ => True)) (va_Qi (fun (r : Int32) (_ : Unit) => r = bI (zhome n)) (fun _ _ => True) zF) 0 0 zF := by
  refine Met.ofW (cc := cX2_isAllHome) (maxL := 2) (ret := (some .boolean)) (by decide) rfl ?_
  intro p e s m args below meth c s₁ B hml hv
  obtain ⟨rfl, -⟩ := hv
  have hx := B.exec
  have hb := B.bytes
  have hr := B.returns
  have hts := atoms_spec (ws := wsX2_isAllHome) B.pre
  have hown : s.vm.findClass RX2 = some m.cls := findClass_of_methodNamed B.named
  have hlocks := B.notSynchronized
  have hl := lv_entry ([.long (lN n)]) (n := 2) (Nat.le_of_ble_eq_true rfl)
  rw [lg_entry_eq]
  generalize (lg_sl ([.long (lN n)]) ++ List.replicate (2 - (lg_sl ([.long (lN n)])).length) Slot.unset).toArray = ls at hl ⊢
  have hl : lv_has ls 2 [(0, .long (lN n))] := hl
  have hP : va_P zG0 [] [] s.heap := fun k q h => by simp at h
  have hS : va_S zF s.heap s.heap [] := va_S.rf
  refine lv_lload_n hx hb dX2_isAllHome_0 rfl (lv_at hl 0 rfl) ?_
  refine lv_ldc2 (v := 1152921504606846975) hx hb hown (hts (.constantLong RX2 11 (1152921504606846975)) (List.mem_of_getElem? (i := 1) rfl)) dX2_isAllHome_1 ?_
  refine lv_land hx hb dX2_isAllHome_4 ?_
  refine zz_l (y := lN (n % 2 ^ 60)) (lN_home hn) ?_
  refine lv_lconst (v := 0) hx hb dX2_isAllHome_5 (by decide) ?_
  refine W.lcmp hx hb dX2_isAllHome_6 ?_
  refine lv_if_ne (tgt := 14) hx hb dX2_isAllHome_7 (by decide) (fun c_7 => ?_) (fun c_7 => ?_)
  · skip
    have c_7 : ¬ n % 2 ^ 60 = 0 := fun h9 => c_7 ((lg_cmp_eq _ _).mpr (by rw [h9]; rfl))
    refine lv_iconst (v := 0) hx hb dX2_isAllHome_14 (by decide) ?_
    exact W.zret (v := 0) hx hb hr rfl (fun t ht hW => ⟨⟨_, (), rfl, (bI_f (by simp [zhome, c_7] <;> omega)), trivial⟩, hS.F ht⟩) hS.2.2 dX2_isAllHome_15
  · skip
    have c_7 : n % 2 ^ 60 = 0 := (pk_lEQ (a := n % 2 ^ 60) (b := 0) (by omega) (by omega)).mp ((lg_cmp_eq _ _).mp c_7)
    refine lv_iconst (v := 1) hx hb dX2_isAllHome_10 (by decide) ?_
    refine lv_goto (tgt := 15) hx hb dX2_isAllHome_11 (by decide) ?_
    exact W.zret (v := 1) hx hb hr rfl (fun t ht hW => ⟨⟨_, (), rfl, (bI_t (by simp [zhome, c_7] <;> omega)), trivial⟩, hS.F ht⟩) hS.2.2 dX2_isAllHome_15

set_option maxHeartbeats 4000000 in
set_option maxRecDepth 100000 in
theorem c_X2_sumOfPlaces (l : Launch) (n : Nat) (hn : n < 2 ^ 63)  : Met l yX2_sumOfPlaces wsX2_sumOfPlaces ({ frames := 1, cells := 0, slots := 0, locals := 22 }) (va_Pc [.long (lN n)] (fun _ => True)) (va_Qi (fun (r : Int32) (_ : Unit) => r = nI (psum n 16)) (fun _ _ => True) zF) 0 0 zF := by
  refine Met.ofW (cc := cX2_sumOfPlaces) (maxL := 4) (ret := (some .int)) (by decide) rfl ?_
  intro p e s m args below meth c s₁ B hml hv
  obtain ⟨rfl, -⟩ := hv
  have hx := B.exec
  have hb := B.bytes
  have hr := B.returns
  have hts := atoms_spec (ws := wsX2_sumOfPlaces) B.pre
  have hown : s.vm.findClass RX2 = some m.cls := findClass_of_methodNamed B.named
  have hlocks := B.notSynchronized
  have hl := lv_entry ([.long (lN n)]) (n := 4) (Nat.le_of_ble_eq_true rfl)
  rw [lg_entry_eq]
  generalize (lg_sl ([.long (lN n)]) ++ List.replicate (4 - (lg_sl ([.long (lN n)])).length) Slot.unset).toArray = ls at hl ⊢
  have hl : lv_has ls 4 [(0, .long (lN n))] := hl
  have hP : va_P zG0 [] [] s.heap := fun k q h => by simp at h
  have hS : va_S zF s.heap s.heap [] := va_S.rf
  generalize hQe : MQ below _ _ _ _ _ _ = Q
  refine lv_iconst (v := 0) hx hb dX2_sumOfPlaces_0 (by decide) ?_
  refine lv_istore_n (lv' := [(2, .int 0), (0, .long (lN n))]) hx hb dX2_sumOfPlaces_1 rfl hl (by decide) rfl (fun ls hl => ?_)
  refine lv_iconst (v := 1) hx hb dX2_sumOfPlaces_2 (by decide) ?_
  refine lv_istore_n (lv' := [(3, .int 1), (2, .int 0), (0, .long (lN n))]) hx hb dX2_sumOfPlaces_3 rfl hl (by decide) rfl (fun ls hl => ?_)
  have lp : ∀ (n9 : Nat) (i : Nat) (sv : Int32), 1 ≤ i → i ≤ 16 → sv = nI (psum n i) → 16 - i < n9 → ∀ (H : Heap) (locs : List Loc), va_P zG0 [] [] H → va_S zF s.heap H locs → ∀ ls : Array Slot, lv_has ls 4 [(3, .int (nI i)), (2, .int sv), (0, .long (lN n))] → W p l e (headSpec wsX2_sumOfPlaces ({ frames := 1, cells := 0, slots := 0, locals := 22 })).room s m ([.long (lN n)] : List Value).toArray below meth c H locs 0 0 Q (F0 m 4 ls []) := by
    intro n9
    induction n9 with
    | zero => intro i sv hi1 hi2 hsv hm9; exact absurd hm9 (Nat.not_lt_zero _)
    | succ n9 ih4 =>
      intro i sv hi1 hi2 hsv hm9 H locs hP hS ls hl
      refine lv_iload_n hx hb dX2_sumOfPlaces_4 rfl (lv_at hl 0 rfl) ?_
      refine lv_bipush (v := 15) hx hb dX2_sumOfPlaces_5 (by decide) ?_
      refine lv_icmp_gt (tgt := 26) hx hb dX2_sumOfPlaces_7 (by decide) (fun c_7 => ?_) (fun c_7 => ?_)
      · skip
        have c_7 : 15 < i := (nI_ltI (a := 15) (b := i) (by omega) (by omega)).mp c_7
        refine lv_iload_n hx hb dX2_sumOfPlaces_26 rfl (lv_at hl 1 rfl) ?_
        subst hQe
        exact W.iret (v := sv) hx hb hr (fun t ht hW => ⟨⟨_, (), rfl, (by rw [hsv, show i = 16 by omega]), trivial⟩, hS.F ht⟩) hS.2.2 dX2_sumOfPlaces_27
      · skip
        have c_7 : ¬ 15 < i := fun h9 => c_7 ((nI_ltI (a := 15) (b := i) (by omega) (by omega)).mpr h9)
        refine lv_iload_n hx hb dX2_sumOfPlaces_10 rfl (lv_at hl 1 rfl) ?_
        refine lv_iload_n hx hb dX2_sumOfPlaces_11 rfl (lv_at hl 0 rfl) ?_
        refine lv_lload_n hx hb dX2_sumOfPlaces_12 rfl (lv_at hl 2 rfl) ?_
        refine lv_iload_n hx hb dX2_sumOfPlaces_13 rfl (lv_at hl 0 rfl) ?_
        refine zro_i (va_runS (As := [.long (lN n), .int (nI i)]) (rest := [.int (nI i), .int sv]) ⟨hx, hb, hml, hown, hts⟩ (c_X2_countAt l n (by omega) i (by omega)) (va_cwS 2 hts gX2_sumOfPlaces_X2_countAt rfl rfl rfl (by decide +kernel) ⟨Nat.le_of_ble_eq_true rfl, Nat.le_of_ble_eq_true rfl⟩) zPu rfl rfl hl.1 rfl (lv_room (Nat.le_of_ble_eq_true rfl)) dX2_sumOfPlaces_14 ⟨Nat.zero_le _, Nat.zero_le _⟩) hP hS (fun H locs hP hS => ?_)
        have hd_14 := dg_lt n i
        refine lv_imul hx hb dX2_sumOfPlaces_17 ?_
        refine zz_i (y := nI (i * (dg n i))) (pk_mul i (dg n i)) ?_
        refine lv_iadd hx hb dX2_sumOfPlaces_18 ?_
        refine zz_i (y := nI (psum n (i + 1))) (by rw [hsv, nI_add]; rfl) ?_
        refine lv_istore_n (lv' := [(2, .int (nI (psum n (i + 1)))), (3, .int (nI i)), (0, .long (lN n))]) hx hb dX2_sumOfPlaces_19 rfl hl (by decide) rfl (fun ls hl => ?_)
        refine lv_iinc (v := nI (i + 1)) (lv' := [(3, .int (nI (i + 1))), (2, .int (nI (psum n (i + 1)))), (0, .long (lN n))]) hx hb dX2_sumOfPlaces_20 hl (k := 1) rfl (nI_1 i) (by decide) rfl (fun ls hl => ?_)
        refine lv_goto (tgt := 4) hx hb dX2_sumOfPlaces_23 (by decide) ?_
        exact ih4 (i + 1) _ (by omega) (by omega) rfl (by omega) _ _ hP hS _ (lv_sub hl [0, 1, 2] rfl)
  exact lp 17 1 0 (by omega) (by omega) (by simp [psum]; rfl) (by omega) _ _ hP hS _ (lv_sub hl [0, 1, 2] rfl)

set_option maxHeartbeats 4000000 in
set_option maxRecDepth 100000 in
theorem c_X2_firstPlace (l : Launch) (n : Nat) (hn : n < 2 ^ 63)  : Met l yX2_firstPlace wsX2_firstPlace ({ frames := 1, cells := 0, slots := 0, locals := 22 }) (va_Pc [.long (lN n)] (fun _ => True)) (va_Qi (fun (r : Int32) (_ : Unit) => r = nI (zfs n 0 15)) (fun _ _ => True) zF) 0 0 zF := by
  refine Met.ofW (cc := cX2_firstPlace) (maxL := 3) (ret := (some .int)) (by decide) rfl ?_
  intro p e s m args below meth c s₁ B hml hv
  obtain ⟨rfl, -⟩ := hv
  have hx := B.exec
  have hb := B.bytes
  have hr := B.returns
  have hts := atoms_spec (ws := wsX2_firstPlace) B.pre
  have hown : s.vm.findClass RX2 = some m.cls := findClass_of_methodNamed B.named
  have hlocks := B.notSynchronized
  have hl := lv_entry ([.long (lN n)]) (n := 3) (Nat.le_of_ble_eq_true rfl)
  rw [lg_entry_eq]
  generalize (lg_sl ([.long (lN n)]) ++ List.replicate (3 - (lg_sl ([.long (lN n)])).length) Slot.unset).toArray = ls at hl ⊢
  have hl : lv_has ls 3 [(0, .long (lN n))] := hl
  have hP : va_P zG0 [] [] s.heap := fun k q h => by simp at h
  have hS : va_S zF s.heap s.heap [] := va_S.rf
  generalize hQe : MQ below _ _ _ _ _ _ = Q
  refine lv_iconst (v := 0) hx hb dX2_firstPlace_0 (by decide) ?_
  refine lv_istore_n (lv' := [(2, .int 0), (0, .long (lN n))]) hx hb dX2_firstPlace_1 rfl hl (by decide) rfl (fun ls hl => ?_)
  have lp : ∀ (n9 : Nat) (i : Nat) (j : Nat), i + j = 15 → zfs n 0 15 = zfs n i j → 15 - i < n9 → ∀ (H : Heap) (locs : List Loc), va_P zG0 [] [] H → va_S zF s.heap H locs → ∀ ls : Array Slot, lv_has ls 3 [(2, .int (nI i)), (0, .long (lN n))] → W p l e (headSpec wsX2_firstPlace ({ frames := 1, cells := 0, slots := 0, locals := 22 })).room s m ([.long (lN n)] : List Value).toArray below meth c H locs 0 0 Q (F0 m 2 ls []) := by
    intro n9
    induction n9 with
    | zero => intro i j hi2 hf hm9; exact absurd hm9 (Nat.not_lt_zero _)
    | succ n9 ih2 =>
      intro i j hi2 hf hm9 H locs hP hS ls hl
      refine lv_iload_n hx hb dX2_firstPlace_2 rfl (lv_at hl 0 rfl) ?_
      refine lv_bipush (v := 15) hx hb dX2_firstPlace_3 (by decide) ?_
      refine lv_icmp_ge (tgt := 22) hx hb dX2_firstPlace_5 (by decide) (fun c_5 => ?_) (fun c_5 => ?_)
      · skip
        have c_5 : 15 ≤ i := (nI_leI (a := 15) (b := i) (by omega) (by omega)).mp c_5
        refine lv_iload_n hx hb dX2_firstPlace_22 rfl (lv_at hl 0 rfl) ?_
        subst hQe
        exact W.iret (v := nI i) hx hb hr (fun t ht hW => ⟨⟨_, (), rfl, (by rw [hf, show j = 0 by omega]; rfl), trivial⟩, hS.F ht⟩) hS.2.2 dX2_firstPlace_23
      · skip
        have c_5 : ¬ 15 ≤ i := fun h9 => c_5 ((nI_leI (a := 15) (b := i) (by omega) (by omega)).mpr h9)
        refine lv_lload_n hx hb dX2_firstPlace_8 rfl (lv_at hl 1 rfl) ?_
        refine lv_iload_n hx hb dX2_firstPlace_9 rfl (lv_at hl 0 rfl) ?_
        refine zro_i (va_runS (As := [.long (lN n), .int (nI i)]) (rest := []) ⟨hx, hb, hml, hown, hts⟩ (c_X2_countAt l n (by omega) i (by omega)) (va_cwS 2 hts gX2_firstPlace_X2_countAt rfl rfl rfl (by decide +kernel) ⟨Nat.le_of_ble_eq_true rfl, Nat.le_of_ble_eq_true rfl⟩) zPu rfl rfl hl.1 rfl (lv_room (Nat.le_of_ble_eq_true rfl)) dX2_firstPlace_10 ⟨Nat.zero_le _, Nat.zero_le _⟩) hP hS (fun H locs hP hS => ?_)
        have hd_10 := dg_lt n i
        refine lv_if_ne (tgt := 22) hx hb dX2_firstPlace_13 (by decide) (fun c_13 => ?_) (fun c_13 => ?_)
        · skip
          have c_13 : ¬ (dg n i) = 0 := fun h9 => c_13 ((nI_eq (a := dg n i) (b := 0) (by omega) (by omega)).mpr h9)
          refine lv_iload_n hx hb dX2_firstPlace_22 rfl (lv_at hl 0 rfl) ?_
          subst hQe
          exact W.iret (v := nI i) hx hb hr (fun t ht hW => ⟨⟨_, (), rfl, (by rw [hf]; obtain ⟨j9, rfl⟩ : ∃ j9, j = j9 + 1 := ⟨j - 1, by omega⟩; rw [zfs_s, if_neg c_13]), trivial⟩, hS.F ht⟩) hS.2.2 dX2_firstPlace_23
        · skip
          have c_13 : (dg n i) = 0 := (nI_eq (a := dg n i) (b := 0) (by omega) (by omega)).mp c_13
          refine lv_iinc (v := nI (i + 1)) (lv' := [(2, .int (nI (i + 1))), (0, .long (lN n))]) hx hb dX2_firstPlace_16 hl (k := 0) rfl (nI_1 i) (by decide) rfl (fun ls hl => ?_)
          refine lv_goto (tgt := 2) hx hb dX2_firstPlace_19 (by decide) ?_
          exact ih2 (i + 1) (j - 1) (by omega) (by rw [hf]; obtain ⟨j9, rfl⟩ : ∃ j9, j = j9 + 1 := ⟨j - 1, by omega⟩; rw [zfs_s, if_pos c_13]; rfl) (by omega) _ _ hP hS _ (lv_sub hl [0, 1] rfl)
  exact lp 16 0 15 (by omega) rfl (by omega) _ _ hP hS _ (lv_sub hl [0, 1] rfl)

set_option maxHeartbeats 4000000 in
set_option maxRecDepth 100000 in
theorem c_X2_canBeTaken (l : Launch) (n : Nat) (hn : n < 2 ^ 63) (pl : Nat) (hp : pl < 1000)  : Met l yX2_canBeTaken wsX2_canBeTaken ({ frames := 1, cells := 0, slots := 0, locals := 22 }) (va_Pc [.long (lN n), .int (nI pl)] (fun _ => True)) (va_Qi (fun (r : Int32) (_ : Unit) => r = bI (ztk n pl)) (fun _ _ => True) zF) 0 0 zF := by
  refine Met.ofW (cc := cX2_canBeTaken) (maxL := 3) (ret := (some .boolean)) (by decide) rfl ?_
  intro p e s m args below meth c s₁ B hml hv
  obtain ⟨rfl, -⟩ := hv
  have hx := B.exec
  have hb := B.bytes
  have hr := B.returns
  have hts := atoms_spec (ws := wsX2_canBeTaken) B.pre
  have hown : s.vm.findClass RX2 = some m.cls := findClass_of_methodNamed B.named
  have hlocks := B.notSynchronized
  have hl := lv_entry ([.long (lN n), .int (nI pl)]) (n := 3) (Nat.le_of_ble_eq_true rfl)
  rw [lg_entry_eq]
  generalize (lg_sl ([.long (lN n), .int (nI pl)]) ++ List.replicate (3 - (lg_sl ([.long (lN n), .int (nI pl)])).length) Slot.unset).toArray = ls at hl ⊢
  have hl : lv_has ls 3 [(0, .long (lN n)), (2, .int (nI pl))] := hl
  have hP : va_P zG0 [] [] s.heap := fun k q h => by simp at h
  have hS : va_S zF s.heap s.heap [] := va_S.rf
  refine lv_iload_n hx hb dX2_canBeTaken_0 rfl (lv_at hl 1 rfl) ?_
  refine zro_i (va_runS (As := [.int (nI pl)]) (rest := []) ⟨hx, hb, hml, hown, hts⟩ (c_X4_isShared l pl (by omega)) (va_cwS 1 hts gX2_canBeTaken_X4_isShared rfl rfl rfl (by decide +kernel) ⟨Nat.le_of_ble_eq_true rfl, Nat.le_of_ble_eq_true rfl⟩) zPu rfl rfl hl.1 rfl (lv_room (Nat.le_of_ble_eq_true rfl)) dX2_canBeTaken_1 ⟨Nat.zero_le _, Nat.zero_le _⟩) hP hS (fun H locs hP hS => ?_)
  refine lv_if_eq (tgt := 19) hx hb dX2_canBeTaken_4 (by decide) (fun c_4 => ?_) (fun c_4 => ?_)
  · skip
    have c_4 := bI_0.mp c_4
    refine lv_iconst (v := 0) hx hb dX2_canBeTaken_19 (by decide) ?_
    exact W.zret (v := 0) hx hb hr rfl (fun t ht hW => ⟨⟨_, (), rfl, (bI_f (by simp [ztk, c_4] <;> omega)), trivial⟩, hS.F ht⟩) hS.2.2 dX2_canBeTaken_20
  · skip
    have c_4 := bI_1.mp c_4
    refine lv_lload_n hx hb dX2_canBeTaken_7 rfl (lv_at hl 0 rfl) ?_
    refine lv_iload_n hx hb dX2_canBeTaken_8 rfl (lv_at hl 1 rfl) ?_
    refine zro_i (va_runS (As := [.long (lN n), .int (nI pl)]) (rest := []) ⟨hx, hb, hml, hown, hts⟩ (c_X2_countAt l n (by omega) pl (by omega)) (va_cwS 2 hts gX2_canBeTaken_X2_countAt rfl rfl rfl (by decide +kernel) ⟨Nat.le_of_ble_eq_true rfl, Nat.le_of_ble_eq_true rfl⟩) zPu rfl rfl hl.1 rfl (lv_room (Nat.le_of_ble_eq_true rfl)) dX2_canBeTaken_9 ⟨Nat.zero_le _, Nat.zero_le _⟩) hP hS (fun H locs hP hS => ?_)
    have hd_9 := dg_lt n pl
    refine lv_if_le (tgt := 19) hx hb dX2_canBeTaken_12 (by decide) (fun c_12 => ?_) (fun c_12 => ?_)
    · skip
      have c_12 : (dg n pl) ≤ 0 := (nI_leI (a := dg n pl) (b := 0) (by omega) (by omega)).mp c_12
      refine lv_iconst (v := 0) hx hb dX2_canBeTaken_19 (by decide) ?_
      exact W.zret (v := 0) hx hb hr rfl (fun t ht hW => ⟨⟨_, (), rfl, (bI_f (by simp [ztk, c_4, c_12] <;> omega)), trivial⟩, hS.F ht⟩) hS.2.2 dX2_canBeTaken_20
    · skip
      have c_12 : ¬ (dg n pl) ≤ 0 := fun h9 => c_12 ((nI_leI (a := dg n pl) (b := 0) (by omega) (by omega)).mpr h9)
      refine lv_iconst (v := 1) hx hb dX2_canBeTaken_15 (by decide) ?_
      refine lv_goto (tgt := 20) hx hb dX2_canBeTaken_16 (by decide) ?_
      exact W.zret (v := 1) hx hb hr rfl (fun t ht hW => ⟨⟨_, (), rfl, (bI_t (by simp [ztk, c_4, c_12] <;> omega)), trivial⟩, hS.F ht⟩) hS.2.2 dX2_canBeTaken_20

set_option maxHeartbeats 4000000 in
set_option maxRecDepth 100000 in
theorem c_X2_canMove (l : Launch) (own oth fr mm : Nat) (mk : Int32) (hn : own < 2 ^ 63) (hn2 : oth < 2 ^ 63) (hfr : fr ≤ 14) (hmm : mm ≤ 4) (hmk : zmk mk mm)  : Met l yX2_canMove wsX2_canMove ({ frames := 1, cells := 0, slots := 0, locals := 22 }) (va_Pc [.long (lN own), .long (lN oth), .int (nI fr), .int mk] (fun _ => True)) (va_Qi (fun (r : Int32) (_ : Unit) => r = bI (zcm own oth fr mm)) (fun _ _ => True) zF) 0 0 zF := by
  refine Met.ofW (cc := cX2_canMove) (maxL := 7) (ret := (some .boolean)) (by decide) rfl ?_
  intro p e s m args below meth c s₁ B hml hv
  obtain ⟨rfl, -⟩ := hv
  have hx := B.exec
  have hb := B.bytes
  have hr := B.returns
  have hts := atoms_spec (ws := wsX2_canMove) B.pre
  have hown : s.vm.findClass RX2 = some m.cls := findClass_of_methodNamed B.named
  have hlocks := B.notSynchronized
  have hl := lv_entry ([.long (lN own), .long (lN oth), .int (nI fr), .int mk]) (n := 7) (Nat.le_of_ble_eq_true rfl)
  rw [lg_entry_eq]
  generalize (lg_sl ([.long (lN own), .long (lN oth), .int (nI fr), .int mk]) ++ List.replicate (7 - (lg_sl ([.long (lN own), .long (lN oth), .int (nI fr), .int mk])).length) Slot.unset).toArray = ls at hl ⊢
  have hl : lv_has ls 7 [(0, .long (lN own)), (2, .long (lN oth)), (4, .int (nI fr)), (5, .int mk)] := hl
  have hP : va_P zG0 [] [] s.heap := fun k q h => by simp at h
  have hS : va_S zF s.heap s.heap [] := va_S.rf
  refine lv_iload hx hb dX2_canMove_0 (lv_at hl 3 rfl) ?_
  refine lv_if_le (tgt := 14) hx hb dX2_canMove_2 (by decide) (fun c_2 => ?_) (fun c_2 => ?_)
  · skip
    have c_2 : mm = 0 := zmk_le hmk hmm c_2
    refine lv_iconst (v := 0) hx hb dX2_canMove_14 (by decide) ?_
    exact W.zret (v := 0) hx hb hr rfl (fun t ht hW => ⟨⟨_, (), rfl, (bI_f (by simp [zcm, c_2] <;> omega)), trivial⟩, hS.F ht⟩) hS.2.2 dX2_canMove_15
  · skip
    have c_2 : 0 < mm := zmk_gt hmk c_2
    obtain rfl : mk = nI mm := zmk_eq hmk c_2
    refine lv_lload_n hx hb dX2_canMove_5 rfl (lv_at hl 0 rfl) ?_
    refine lv_iload hx hb dX2_canMove_6 (lv_at hl 2 rfl) ?_
    refine zro_i (va_runS (As := [.long (lN own), .int (nI fr)]) (rest := []) ⟨hx, hb, hml, hown, hts⟩ (c_X2_countAt l own (by omega) fr (by omega)) (va_cwS 2 hts gX2_canMove_X2_countAt rfl rfl rfl (by decide +kernel) ⟨Nat.le_of_ble_eq_true rfl, Nat.le_of_ble_eq_true rfl⟩) zPu rfl rfl hl.1 rfl (lv_room (Nat.le_of_ble_eq_true rfl)) dX2_canMove_8 ⟨Nat.zero_le _, Nat.zero_le _⟩) hP hS (fun H locs hP hS => ?_)
    have hd_8 := dg_lt own fr
    refine lv_if_ne (tgt := 16) hx hb dX2_canMove_11 (by decide) (fun c_11 => ?_) (fun c_11 => ?_)
    · skip
      have c_11 : ¬ (dg own fr) = 0 := fun h9 => c_11 ((nI_eq (a := dg own fr) (b := 0) (by omega) (by omega)).mpr h9)
      refine lv_iload hx hb dX2_canMove_16 (lv_at hl 2 rfl) ?_
      refine lv_iload hx hb dX2_canMove_18 (lv_at hl 3 rfl) ?_
      refine lv_iadd hx hb dX2_canMove_20 ?_
      refine zz_i (y := nI (fr + mm)) (nI_add fr mm) ?_
      refine lv_istore (lv' := [(6, .int (nI (fr + mm))), (0, .long (lN own)), (2, .long (lN oth)), (4, .int (nI fr)), (5, .int (nI mm))]) hx hb dX2_canMove_21 hl (by decide) rfl (fun ls hl => ?_)
      refine lv_iload hx hb dX2_canMove_23 (lv_at hl 0 rfl) ?_
      refine lv_lload_n hx hb dX2_canMove_25 rfl (lv_at hl 1 rfl) ?_
      refine lv_iload hx hb dX2_canMove_26 (lv_at hl 0 rfl) ?_
      refine zro_i (va_runS (As := [.long (lN own), .int (nI (fr + mm))]) (rest := [.int (nI (fr + mm))]) ⟨hx, hb, hml, hown, hts⟩ (c_X2_countAt l own (by omega) (fr + mm) (by omega)) (va_cwS 2 hts gX2_canMove_X2_countAt rfl rfl rfl (by decide +kernel) ⟨Nat.le_of_ble_eq_true rfl, Nat.le_of_ble_eq_true rfl⟩) zPu rfl rfl hl.1 rfl (lv_room (Nat.le_of_ble_eq_true rfl)) dX2_canMove_28 ⟨Nat.zero_le _, Nat.zero_le _⟩) hP hS (fun H locs hP hS => ?_)
      have hd_28 := dg_lt own (fr + mm)
      refine lv_if_le (tgt := 38) hx hb dX2_canMove_31 (by decide) (fun c_31 => ?_) (fun c_31 => ?_)
      · skip
        have c_31 : (dg own (fr + mm)) ≤ 0 := (nI_leI (a := dg own (fr + mm)) (b := 0) (by omega) (by omega)).mp c_31
        refine lv_iconst (v := 0) hx hb dX2_canMove_38 (by decide) ?_
        refine lv_lload_n hx hb dX2_canMove_39 rfl (lv_at hl 2 rfl) ?_
        refine lv_iload hx hb dX2_canMove_40 (lv_at hl 0 rfl) ?_
        refine zro_i (va_runS (As := [.long (lN oth), .int (nI (fr + mm))]) (rest := [.int 0, .int (nI (fr + mm))]) ⟨hx, hb, hml, hown, hts⟩ (c_X2_countAt l oth (by omega) (fr + mm) (by omega)) (va_cwS 2 hts gX2_canMove_X2_countAt rfl rfl rfl (by decide +kernel) ⟨Nat.le_of_ble_eq_true rfl, Nat.le_of_ble_eq_true rfl⟩) zPu rfl rfl hl.1 rfl (lv_room (Nat.le_of_ble_eq_true rfl)) dX2_canMove_42 ⟨Nat.zero_le _, Nat.zero_le _⟩) hP hS (fun H locs hP hS => ?_)
        have hd_42 := dg_lt oth (fr + mm)
        refine lv_if_le (tgt := 52) hx hb dX2_canMove_45 (by decide) (fun c_45 => ?_) (fun c_45 => ?_)
        · skip
          have c_45 : (dg oth (fr + mm)) ≤ 0 := (nI_leI (a := dg oth (fr + mm)) (b := 0) (by omega) (by omega)).mp c_45
          refine lv_iconst (v := 0) hx hb dX2_canMove_52 (by decide) ?_
          refine zro_i (va_runS (As := [.int (nI (fr + mm)), .int 0, .int 0]) (rest := []) ⟨hx, hb, hml, hown, hts⟩ (c_X4_canEnter l (fr + mm) (by omega) false false) (va_cwS 3 hts gX2_canMove_X4_canEnter rfl rfl rfl (by decide +kernel) ⟨Nat.le_of_ble_eq_true rfl, Nat.le_of_ble_eq_true rfl⟩) zPu rfl rfl hl.1 rfl (lv_room (Nat.le_of_ble_eq_true rfl)) dX2_canMove_53 ⟨Nat.zero_le _, Nat.zero_le _⟩) hP hS (fun H locs hP hS => ?_)
          exact W.zret (v := bI (zcen (fr + mm) false false)) hx hb hr (bI_nar _) (fun t ht hW => ⟨⟨_, (), rfl, congrArg bI (zcm_c (by omega) (by omega) (by simp; omega) (by simp; omega)), trivial⟩, hS.F ht⟩) hS.2.2 dX2_canMove_56
        · skip
          have c_45 : ¬ (dg oth (fr + mm)) ≤ 0 := fun h9 => c_45 ((nI_leI (a := dg oth (fr + mm)) (b := 0) (by omega) (by omega)).mpr h9)
          refine lv_iconst (v := 1) hx hb dX2_canMove_48 (by decide) ?_
          refine lv_goto (tgt := 53) hx hb dX2_canMove_49 (by decide) ?_
          refine zro_i (va_runS (As := [.int (nI (fr + mm)), .int 0, .int 1]) (rest := []) ⟨hx, hb, hml, hown, hts⟩ (c_X4_canEnter l (fr + mm) (by omega) false true) (va_cwS 3 hts gX2_canMove_X4_canEnter rfl rfl rfl (by decide +kernel) ⟨Nat.le_of_ble_eq_true rfl, Nat.le_of_ble_eq_true rfl⟩) zPu rfl rfl hl.1 rfl (lv_room (Nat.le_of_ble_eq_true rfl)) dX2_canMove_53 ⟨Nat.zero_le _, Nat.zero_le _⟩) hP hS (fun H locs hP hS => ?_)
          exact W.zret (v := bI (zcen (fr + mm) false true)) hx hb hr (bI_nar _) (fun t ht hW => ⟨⟨_, (), rfl, congrArg bI (zcm_c (by omega) (by omega) (by simp; omega) (by simp; omega)), trivial⟩, hS.F ht⟩) hS.2.2 dX2_canMove_56
      · skip
        have c_31 : ¬ (dg own (fr + mm)) ≤ 0 := fun h9 => c_31 ((nI_leI (a := dg own (fr + mm)) (b := 0) (by omega) (by omega)).mpr h9)
        refine lv_iconst (v := 1) hx hb dX2_canMove_34 (by decide) ?_
        refine lv_goto (tgt := 39) hx hb dX2_canMove_35 (by decide) ?_
        refine lv_lload_n hx hb dX2_canMove_39 rfl (lv_at hl 2 rfl) ?_
        refine lv_iload hx hb dX2_canMove_40 (lv_at hl 0 rfl) ?_
        refine zro_i (va_runS (As := [.long (lN oth), .int (nI (fr + mm))]) (rest := [.int 1, .int (nI (fr + mm))]) ⟨hx, hb, hml, hown, hts⟩ (c_X2_countAt l oth (by omega) (fr + mm) (by omega)) (va_cwS 2 hts gX2_canMove_X2_countAt rfl rfl rfl (by decide +kernel) ⟨Nat.le_of_ble_eq_true rfl, Nat.le_of_ble_eq_true rfl⟩) zPu rfl rfl hl.1 rfl (lv_room (Nat.le_of_ble_eq_true rfl)) dX2_canMove_42 ⟨Nat.zero_le _, Nat.zero_le _⟩) hP hS (fun H locs hP hS => ?_)
        have hd_42 := dg_lt oth (fr + mm)
        refine lv_if_le (tgt := 52) hx hb dX2_canMove_45 (by decide) (fun c_45 => ?_) (fun c_45 => ?_)
        · skip
          have c_45 : (dg oth (fr + mm)) ≤ 0 := (nI_leI (a := dg oth (fr + mm)) (b := 0) (by omega) (by omega)).mp c_45
          refine lv_iconst (v := 0) hx hb dX2_canMove_52 (by decide) ?_
          refine zro_i (va_runS (As := [.int (nI (fr + mm)), .int 1, .int 0]) (rest := []) ⟨hx, hb, hml, hown, hts⟩ (c_X4_canEnter l (fr + mm) (by omega) true false) (va_cwS 3 hts gX2_canMove_X4_canEnter rfl rfl rfl (by decide +kernel) ⟨Nat.le_of_ble_eq_true rfl, Nat.le_of_ble_eq_true rfl⟩) zPu rfl rfl hl.1 rfl (lv_room (Nat.le_of_ble_eq_true rfl)) dX2_canMove_53 ⟨Nat.zero_le _, Nat.zero_le _⟩) hP hS (fun H locs hP hS => ?_)
          exact W.zret (v := bI (zcen (fr + mm) true false)) hx hb hr (bI_nar _) (fun t ht hW => ⟨⟨_, (), rfl, congrArg bI (zcm_c (by omega) (by omega) (by simp; omega) (by simp; omega)), trivial⟩, hS.F ht⟩) hS.2.2 dX2_canMove_56
        · skip
          have c_45 : ¬ (dg oth (fr + mm)) ≤ 0 := fun h9 => c_45 ((nI_leI (a := dg oth (fr + mm)) (b := 0) (by omega) (by omega)).mpr h9)
          refine lv_iconst (v := 1) hx hb dX2_canMove_48 (by decide) ?_
          refine lv_goto (tgt := 53) hx hb dX2_canMove_49 (by decide) ?_
          refine zro_i (va_runS (As := [.int (nI (fr + mm)), .int 1, .int 1]) (rest := []) ⟨hx, hb, hml, hown, hts⟩ (c_X4_canEnter l (fr + mm) (by omega) true true) (va_cwS 3 hts gX2_canMove_X4_canEnter rfl rfl rfl (by decide +kernel) ⟨Nat.le_of_ble_eq_true rfl, Nat.le_of_ble_eq_true rfl⟩) zPu rfl rfl hl.1 rfl (lv_room (Nat.le_of_ble_eq_true rfl)) dX2_canMove_53 ⟨Nat.zero_le _, Nat.zero_le _⟩) hP hS (fun H locs hP hS => ?_)
          exact W.zret (v := bI (zcen (fr + mm) true true)) hx hb hr (bI_nar _) (fun t ht hW => ⟨⟨_, (), rfl, congrArg bI (zcm_c (by omega) (by omega) (by simp; omega) (by simp; omega)), trivial⟩, hS.F ht⟩) hS.2.2 dX2_canMove_56
    · skip
      have c_11 : (dg own fr) = 0 := (nI_eq (a := dg own fr) (b := 0) (by omega) (by omega)).mp c_11
      refine lv_iconst (v := 0) hx hb dX2_canMove_14 (by decide) ?_
      exact W.zret (v := 0) hx hb hr rfl (fun t ht hW => ⟨⟨_, (), rfl, (bI_f (by simp [zcm, c_2, c_11] <;> omega)), trivial⟩, hS.F ht⟩) hS.2.2 dX2_canMove_15

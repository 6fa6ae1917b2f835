/-! the reference's face: reads -/
theorem zRow_sel {F : Nat → Int32} {sd own oth s p : Nat} (hsd : sd ≤ 1) (h : zRow F 0 sd own oth) (hs : s ≤ 1) (hp : p ≤ 15) : F (16 * s + p) = nI (dg (if s = sd then own else oth) p) := by
  by_cases e : s = sd
  · rw [if_pos e, e, show 16 * sd + p = 0 + 16 * sd + p by omega]; exact h.1 p (by omega)
  · rw [if_neg e, show 16 * s + p = 0 + 16 * (1 - sd) + p by omega]; exact h.2 p (by omega)
theorem zRow_half {F : Nat → Int32} {sd own oth s : Nat} (hsd : sd ≤ 1) (h : zRow F 0 sd own oth) (hs : s ≤ 1) : zHf F 0 s (if s = sd then own else oth) := fun p hp => by
  rw [show 0 + 16 * s + p = 16 * s + p by omega]; exact zRow_sel hsd h hs (by omega)
theorem zi_sub0 (x y : Int32) : x - y = 0 ↔ y = x := by constructor <;> intro h <;> grind
theorem zi_ring5 (x y : Int32) : x - y + (-1) = x - (y + 1) := by grind
set_option maxHeartbeats 4000000 in
set_option maxRecDepth 100000 in
theorem c_X6_turn (l : Launch) (dC : Nat → ClassId) (dI : Nat → Nat → Nat) (cyI cyJ : ClassId) (pI : Int32) (bx bl ba bt bg be bf bw bs bm bn bb bu bh : Nat) (thr sI tI wI cI : Int32) (hnd : [bx].Nodup) : Met l yX6_turn wsX6_turn ({ frames := 0, cells := 0, slots := 0, locals := 0 }) (zPc [.ref bx] (dC, dI) vwCl [(cyI, .int), (cyJ, .long)] [(bx, .inr (3, [.int thr, .int pI, .int sI, .int tI, .int wI, .int cI, .ref bl, .ref ba, .ref bt, .ref bg, .ref be, .ref bf, .ref bw, .ref bs, .ref bm, .ref bn, .ref bb, .ref bu, .ref bh]))] (fun _ => True)) (va_Qi (fun (r : Int32) (_ : Unit) => r = sI) (fun (u : Unit) t => va_P (dC, dI) vwCl ([(bx, .inr (3, [.int 0, .int pI, .int sI, .int tI, .int wI, .int cI, .ref bl, .ref ba, .ref bt, .ref bg, .ref be, .ref bf, .ref bw, .ref bs, .ref bm, .ref bn, .ref bb, .ref bu, .ref bh]))]) t.heap) (zA [bx])) 0 0 (zA [bx]) := by
  refine Met.ofW (cc := cX6_turn) (maxL := 1) (ret := (some .int)) (by decide) rfl ?_
  intro p e s m args below meth c s₁ B hml hv
  obtain ⟨rfl, hP, hK, hX⟩ := hv
  have hx := B.exec
  have hb := B.bytes
  have hr := B.returns
  have hts := atoms_spec (ws := wsX6_turn) B.pre
  have hown : s.vm.findClass RX6 = some m.cls := findClass_of_methodNamed B.named
  have hlocks := B.notSynchronized
  have hinX6 : ∀ w ∈ wsX60, w ∈ wsX6_turn := by decide +kernel
  have hl := lv_entry ([.ref bx]) (n := 1) (Nat.le_of_ble_eq_true rfl)
  rw [lg_entry_eq]
  generalize (lg_sl ([.ref bx]) ++ List.replicate (1 - (lg_sl ([.ref bx])).length) Slot.unset).toArray = ls at hl ⊢
  have hl : lv_has ls 1 [(0, .ref bx)] := hl
  have hS : va_S (zA [bx]) s.heap s.heap [] := va_S.rf
  have hDD : zD (zA [bx]) [bx] := ⟨hnd, fun _ h => h⟩
  refine lv_aload_n hx hb dX6_turn_0 rfl (lv_at hl 0 rfl) ?_
  refine lv_iconst (v := 0) hx hb dX6_turn_1 (by decide) ?_
  refine va_put (D := (dC, dI)) (ci := 3) (v := .int 0) (ty := .int) (C := RX6) (T := TX6) (N := 19) hx hb hts hinX6 tyX6 tyX6_ok nmX6 hown hK hP (hDD.va rfl) hS 0 rfl rfl 0 (by decide) (hts (.fieldLink RX6 64 "RoyalUrTableModel" "thrown" "I") (List.mem_of_getElem? (i := 1) rfl)) (fun _ h9 => h9) rfl (by decide +kernel) rfl rfl (Nat.le_of_ble_eq_true rfl) dX6_turn_2 (fun H locs hP hD9 hS => ?_)
  have hP : va_P (dC, dI) vwCl [(bx, .inr (3, [.int 0, .int pI, .int sI, .int tI, .int wI, .int cI, .ref bl, .ref ba, .ref bt, .ref bg, .ref be, .ref bf, .ref bw, .ref bs, .ref bm, .ref bn, .ref bb, .ref bu, .ref bh]))] H := hP
  refine lv_aload_n hx hb dX6_turn_5 rfl (lv_at hl 0 rfl) ?_
  refine va_get (D := (dC, dI)) (ci := 3) (v := .int sI) (C := RX6) (T := TX6) (N := 19) hx hb hts hinX6 hown hK hP 0 rfl rfl 2 (by decide) (hts (.fieldLink RX6 128 "RoyalUrTableModel" "side" "I") (List.mem_of_getElem? (i := 2) rfl)) (fun _ h9 => h9) rfl dX6_turn_6 ?_
  exact W.iret (v := sI) hx hb hr (fun t ht hW => ⟨⟨_, (), rfl, rfl, zh ht hP⟩, hS.F ht⟩) hS.2.2 dX6_turn_9

set_option maxHeartbeats 4000000 in
set_option maxRecDepth 100000 in
theorem c_X6_marks (l : Launch) (dC : Nat → ClassId) (dI : Nat → Nat → Nat) (cyI cyJ : ClassId) (pI : Int32) (bx bl ba bt bg be bf bw bs bm bn bb bu bh : Nat) (thr sI tI wI cI : Int32) (hnd : [bx].Nodup) : Met l yX6_marks wsX6_marks ({ frames := 0, cells := 0, slots := 0, locals := 0 }) (zPc [.ref bx] (dC, dI) vwCl [(cyI, .int), (cyJ, .long)] [(bx, .inr (3, [.int thr, .int pI, .int sI, .int tI, .int wI, .int cI, .ref bl, .ref ba, .ref bt, .ref bg, .ref be, .ref bf, .ref bw, .ref bs, .ref bm, .ref bn, .ref bb, .ref bu, .ref bh]))] (fun _ => True)) (va_Qi (fun (r : Int32) (_ : Unit) => r = tI) (fun (u : Unit) t => va_P (dC, dI) vwCl ([(bx, .inr (3, [.int 0, .int pI, .int sI, .int tI, .int wI, .int cI, .ref bl, .ref ba, .ref bt, .ref bg, .ref be, .ref bf, .ref bw, .ref bs, .ref bm, .ref bn, .ref bb, .ref bu, .ref bh]))]) t.heap) (zA [bx])) 0 0 (zA [bx]) := by
  refine Met.ofW (cc := cX6_marks) (maxL := 1) (ret := (some .int)) (by decide) rfl ?_
  intro p e s m args below meth c s₁ B hml hv
  obtain ⟨rfl, hP, hK, hX⟩ := hv
  have hx := B.exec
  have hb := B.bytes
  have hr := B.returns
  have hts := atoms_spec (ws := wsX6_marks) B.pre
  have hown : s.vm.findClass RX6 = some m.cls := findClass_of_methodNamed B.named
  have hlocks := B.notSynchronized
  have hinX6 : ∀ w ∈ wsX60, w ∈ wsX6_marks := by decide +kernel
  have hl := lv_entry ([.ref bx]) (n := 1) (Nat.le_of_ble_eq_true rfl)
  rw [lg_entry_eq]
  generalize (lg_sl ([.ref bx]) ++ List.replicate (1 - (lg_sl ([.ref bx])).length) Slot.unset).toArray = ls at hl ⊢
  have hl : lv_has ls 1 [(0, .ref bx)] := hl
  have hS : va_S (zA [bx]) s.heap s.heap [] := va_S.rf
  have hDD : zD (zA [bx]) [bx] := ⟨hnd, fun _ h => h⟩
  refine lv_aload_n hx hb dX6_marks_0 rfl (lv_at hl 0 rfl) ?_
  refine lv_iconst (v := 0) hx hb dX6_marks_1 (by decide) ?_
  refine va_put (D := (dC, dI)) (ci := 3) (v := .int 0) (ty := .int) (C := RX6) (T := TX6) (N := 19) hx hb hts hinX6 tyX6 tyX6_ok nmX6 hown hK hP (hDD.va rfl) hS 0 rfl rfl 0 (by decide) (hts (.fieldLink RX6 64 "RoyalUrTableModel" "thrown" "I") (List.mem_of_getElem? (i := 1) rfl)) (fun _ h9 => h9) rfl (by decide +kernel) rfl rfl (Nat.le_of_ble_eq_true rfl) dX6_marks_2 (fun H locs hP hD9 hS => ?_)
  have hP : va_P (dC, dI) vwCl [(bx, .inr (3, [.int 0, .int pI, .int sI, .int tI, .int wI, .int cI, .ref bl, .ref ba, .ref bt, .ref bg, .ref be, .ref bf, .ref bw, .ref bs, .ref bm, .ref bn, .ref bb, .ref bu, .ref bh]))] H := hP
  refine lv_aload_n hx hb dX6_marks_5 rfl (lv_at hl 0 rfl) ?_
  refine va_get (D := (dC, dI)) (ci := 3) (v := .int tI) (C := RX6) (T := TX6) (N := 19) hx hb hts hinX6 hown hK hP 0 rfl rfl 3 (by decide) (hts (.fieldLink RX6 9 "RoyalUrTableModel" "told" "I") (List.mem_of_getElem? (i := 2) rfl)) (fun _ h9 => h9) rfl dX6_marks_6 ?_
  exact W.iret (v := tI) hx hb hr (fun t ht hW => ⟨⟨_, (), rfl, rfl, zh ht hP⟩, hS.F ht⟩) hS.2.2 dX6_marks_9

set_option maxHeartbeats 4000000 in
set_option maxRecDepth 100000 in
theorem c_X6_winner (l : Launch) (dC : Nat → ClassId) (dI : Nat → Nat → Nat) (cyI cyJ : ClassId) (pI : Int32) (bx bl ba bt bg be bf bw bs bm bn bb bu bh : Nat) (thr sI tI wI cI : Int32) (hnd : [bx].Nodup) : Met l yX6_winner wsX6_winner ({ frames := 0, cells := 0, slots := 0, locals := 0 }) (zPc [.ref bx] (dC, dI) vwCl [(cyI, .int), (cyJ, .long)] [(bx, .inr (3, [.int thr, .int pI, .int sI, .int tI, .int wI, .int cI, .ref bl, .ref ba, .ref bt, .ref bg, .ref be, .ref bf, .ref bw, .ref bs, .ref bm, .ref bn, .ref bb, .ref bu, .ref bh]))] (fun _ => True)) (va_Qi (fun (r : Int32) (_ : Unit) => r = wI) (fun (u : Unit) t => va_P (dC, dI) vwCl ([(bx, .inr (3, [.int 0, .int pI, .int sI, .int tI, .int wI, .int cI, .ref bl, .ref ba, .ref bt, .ref bg, .ref be, .ref bf, .ref bw, .ref bs, .ref bm, .ref bn, .ref bb, .ref bu, .ref bh]))]) t.heap) (zA [bx])) 0 0 (zA [bx]) := by
  refine Met.ofW (cc := cX6_winner) (maxL := 1) (ret := (some .int)) (by decide) rfl ?_
  intro p e s m args below meth c s₁ B hml hv
  obtain ⟨rfl, hP, hK, hX⟩ := hv
  have hx := B.exec
  have hb := B.bytes
  have hr := B.returns
  have hts := atoms_spec (ws := wsX6_winner) B.pre
  have hown : s.vm.findClass RX6 = some m.cls := findClass_of_methodNamed B.named
  have hlocks := B.notSynchronized
  have hinX6 : ∀ w ∈ wsX60, w ∈ wsX6_winner := by decide +kernel
  have hl := lv_entry ([.ref bx]) (n := 1) (Nat.le_of_ble_eq_true rfl)
  rw [lg_entry_eq]
  generalize (lg_sl ([.ref bx]) ++ List.replicate (1 - (lg_sl ([.ref bx])).length) Slot.unset).toArray = ls at hl ⊢
  have hl : lv_has ls 1 [(0, .ref bx)] := hl
  have hS : va_S (zA [bx]) s.heap s.heap [] := va_S.rf
  have hDD : zD (zA [bx]) [bx] := ⟨hnd, fun _ h => h⟩
  refine lv_aload_n hx hb dX6_winner_0 rfl (lv_at hl 0 rfl) ?_
  refine lv_iconst (v := 0) hx hb dX6_winner_1 (by decide) ?_
  refine va_put (D := (dC, dI)) (ci := 3) (v := .int 0) (ty := .int) (C := RX6) (T := TX6) (N := 19) hx hb hts hinX6 tyX6 tyX6_ok nmX6 hown hK hP (hDD.va rfl) hS 0 rfl rfl 0 (by decide) (hts (.fieldLink RX6 64 "RoyalUrTableModel" "thrown" "I") (List.mem_of_getElem? (i := 1) rfl)) (fun _ h9 => h9) rfl (by decide +kernel) rfl rfl (Nat.le_of_ble_eq_true rfl) dX6_winner_2 (fun H locs hP hD9 hS => ?_)
  have hP : va_P (dC, dI) vwCl [(bx, .inr (3, [.int 0, .int pI, .int sI, .int tI, .int wI, .int cI, .ref bl, .ref ba, .ref bt, .ref bg, .ref be, .ref bf, .ref bw, .ref bs, .ref bm, .ref bn, .ref bb, .ref bu, .ref bh]))] H := hP
  refine lv_aload_n hx hb dX6_winner_5 rfl (lv_at hl 0 rfl) ?_
  refine va_get (D := (dC, dI)) (ci := 3) (v := .int wI) (C := RX6) (T := TX6) (N := 19) hx hb hts hinX6 hown hK hP 0 rfl rfl 4 (by decide) (hts (.fieldLink RX6 13 "RoyalUrTableModel" "won" "I") (List.mem_of_getElem? (i := 2) rfl)) (fun _ h9 => h9) rfl dX6_winner_6 ?_
  exact W.iret (v := wI) hx hb hr (fun t ht hW => ⟨⟨_, (), rfl, rfl, zh ht hP⟩, hS.F ht⟩) hS.2.2 dX6_winner_9

set_option maxHeartbeats 4000000 in
set_option maxRecDepth 100000 in
theorem c_X6_throwsTold (l : Launch) (dC : Nat → ClassId) (dI : Nat → Nat → Nat) (cyI cyJ : ClassId) (pI : Int32) (bx bl ba bt bg be bf bw bs bm bn bb bu bh : Nat) (thr sI tI wI cI : Int32) (hnd : [bx].Nodup) : Met l yX6_throwsTold wsX6_throwsTold ({ frames := 0, cells := 0, slots := 0, locals := 0 }) (zPc [.ref bx] (dC, dI) vwCl [(cyI, .int), (cyJ, .long)] [(bx, .inr (3, [.int thr, .int pI, .int sI, .int tI, .int wI, .int cI, .ref bl, .ref ba, .ref bt, .ref bg, .ref be, .ref bf, .ref bw, .ref bs, .ref bm, .ref bn, .ref bb, .ref bu, .ref bh]))] (fun _ => True)) (va_Qi (fun (r : Int32) (_ : Unit) => r = cI) (fun (u : Unit) t => va_P (dC, dI) vwCl ([(bx, .inr (3, [.int 0, .int pI, .int sI, .int tI, .int wI, .int cI, .ref bl, .ref ba, .ref bt, .ref bg, .ref be, .ref bf, .ref bw, .ref bs, .ref bm, .ref bn, .ref bb, .ref bu, .ref bh]))]) t.heap) (zA [bx])) 0 0 (zA [bx]) := by
  refine Met.ofW (cc := cX6_throwsTold) (maxL := 1) (ret := (some .int)) (by decide) rfl ?_
  intro p e s m args below meth c s₁ B hml hv
  obtain ⟨rfl, hP, hK, hX⟩ := hv
  have hx := B.exec
  have hb := B.bytes
  have hr := B.returns
  have hts := atoms_spec (ws := wsX6_throwsTold) B.pre
  have hown : s.vm.findClass RX6 = some m.cls := findClass_of_methodNamed B.named
  have hlocks := B.notSynchronized
  have hinX6 : ∀ w ∈ wsX60, w ∈ wsX6_throwsTold := by decide +kernel
  have hl := lv_entry ([.ref bx]) (n := 1) (Nat.le_of_ble_eq_true rfl)
  rw [lg_entry_eq]
  generalize (lg_sl ([.ref bx]) ++ List.replicate (1 - (lg_sl ([.ref bx])).length) Slot.unset).toArray = ls at hl ⊢
  have hl : lv_has ls 1 [(0, .ref bx)] := hl
  have hS : va_S (zA [bx]) s.heap s.heap [] := va_S.rf
  have hDD : zD (zA [bx]) [bx] := ⟨hnd, fun _ h => h⟩
  refine lv_aload_n hx hb dX6_throwsTold_0 rfl (lv_at hl 0 rfl) ?_
  refine lv_iconst (v := 0) hx hb dX6_throwsTold_1 (by decide) ?_
  refine va_put (D := (dC, dI)) (ci := 3) (v := .int 0) (ty := .int) (C := RX6) (T := TX6) (N := 19) hx hb hts hinX6 tyX6 tyX6_ok nmX6 hown hK hP (hDD.va rfl) hS 0 rfl rfl 0 (by decide) (hts (.fieldLink RX6 64 "RoyalUrTableModel" "thrown" "I") (List.mem_of_getElem? (i := 1) rfl)) (fun _ h9 => h9) rfl (by decide +kernel) rfl rfl (Nat.le_of_ble_eq_true rfl) dX6_throwsTold_2 (fun H locs hP hD9 hS => ?_)
  have hP : va_P (dC, dI) vwCl [(bx, .inr (3, [.int 0, .int pI, .int sI, .int tI, .int wI, .int cI, .ref bl, .ref ba, .ref bt, .ref bg, .ref be, .ref bf, .ref bw, .ref bs, .ref bm, .ref bn, .ref bb, .ref bu, .ref bh]))] H := hP
  refine lv_aload_n hx hb dX6_throwsTold_5 rfl (lv_at hl 0 rfl) ?_
  refine va_get (D := (dC, dI)) (ci := 3) (v := .int cI) (C := RX6) (T := TX6) (N := 19) hx hb hts hinX6 hown hK hP 0 rfl rfl 5 (by decide) (hts (.fieldLink RX6 140 "RoyalUrTableModel" "count" "I") (List.mem_of_getElem? (i := 2) rfl)) (fun _ h9 => h9) rfl dX6_throwsTold_6 ?_
  exact W.iret (v := cI) hx hb hr (fun t ht hW => ⟨⟨_, (), rfl, rfl, zh ht hP⟩, hS.F ht⟩) hS.2.2 dX6_throwsTold_9

set_option maxHeartbeats 4000000 in
set_option maxRecDepth 100000 in
theorem c_X6_thrown (l : Launch) (dC : Nat → ClassId) (dI : Nat → Nat → Nat) (cyI cyJ : ClassId) (pI : Int32) (bx bl ba bt bg be bf bw bs bm bn bb bu bh : Nat) (thr sI tI wI cI : Int32) : Met l yX6_thrown wsX6_thrown ({ frames := 0, cells := 0, slots := 0, locals := 0 }) (zPc [.ref bx] (dC, dI) vwCl [(cyI, .int), (cyJ, .long)] [(bx, .inr (3, [.int thr, .int pI, .int sI, .int tI, .int wI, .int cI, .ref bl, .ref ba, .ref bt, .ref bg, .ref be, .ref bf, .ref bw, .ref bs, .ref bm, .ref bn, .ref bb, .ref bu, .ref bh]))] (fun _ => True)) (va_Qi (fun (r : Int32) (_ : Unit) => r = thr) (fun _ _ => True) zF) 0 0 zF := by
  refine Met.ofW (cc := cX6_thrown) (maxL := 1) (ret := (some .int)) (by decide) rfl ?_
  intro p e s m args below meth c s₁ B hml hv
  obtain ⟨rfl, hP, hK, hX⟩ := hv
  have hx := B.exec
  have hb := B.bytes
  have hr := B.returns
  have hts := atoms_spec (ws := wsX6_thrown) B.pre
  have hown : s.vm.findClass RX6 = some m.cls := findClass_of_methodNamed B.named
  have hlocks := B.notSynchronized
  have hinX6 : ∀ w ∈ wsX60, w ∈ wsX6_thrown := by decide +kernel
  have hl := lv_entry ([.ref bx]) (n := 1) (Nat.le_of_ble_eq_true rfl)
  rw [lg_entry_eq]
  generalize (lg_sl ([.ref bx]) ++ List.replicate (1 - (lg_sl ([.ref bx])).length) Slot.unset).toArray = ls at hl ⊢
  have hl : lv_has ls 1 [(0, .ref bx)] := hl
  have hS : va_S zF s.heap s.heap [] := va_S.rf
  refine lv_aload_n hx hb dX6_thrown_0 rfl (lv_at hl 0 rfl) ?_
  refine va_get (D := (dC, dI)) (ci := 3) (v := .int thr) (C := RX6) (T := TX6) (N := 19) hx hb hts hinX6 hown hK hP 0 rfl rfl 0 (by decide) (hts (.fieldLink RX6 64 "RoyalUrTableModel" "thrown" "I") (List.mem_of_getElem? (i := 1) rfl)) (fun _ h9 => h9) rfl dX6_thrown_1 ?_
  exact W.iret (v := thr) hx hb hr (fun t ht hW => ⟨⟨_, (), rfl, rfl, trivial⟩, hS.F ht⟩) hS.2.2 dX6_thrown_4

set_option maxHeartbeats 4000000 in
set_option maxRecDepth 100000 in
theorem c_X6_at (l : Launch) (dC : Nat → ClassId) (dI : Nat → Nat → Nat) (cyI cyJ : ClassId) (k : Nat) (bx bl ba bt bg be bf bw bs bm bn bb bu bh : Nat) (thr tI wI cI : Int32) (Af : Nat → Int32) (sd own oth mm : Nat) (hsd : sd ≤ 1) (hrow : zRow Af 0 sd own oth) (hmk : zmk tI mm) (hmm : mm ≤ 4) (v w9 : Int32) (hnd : [bx, ba].Nodup) : Met l yX6_at wsX6_at ({ frames := 1, cells := 0, slots := 0, locals := 22 }) (zPc [.ref bx, .int v, .int w9] (dC, dI) vwCl [(cyI, .int), (cyJ, .long)] [(bx, .inr (3, [.int thr, .int (nI k), .int (nI sd), .int tI, .int wI, .int cI, .ref bl, .ref ba, .ref bt, .ref bg, .ref be, .ref bf, .ref bw, .ref bs, .ref bm, .ref bn, .ref bb, .ref bu, .ref bh])), (ba, .inl (cyI, 32, .inl Af))] (fun _ => True)) (va_Qi (fun (r : Int32) (u : Int32) => (u = 0 ∧ ∃ sN pN : Nat, sN ≤ 1 ∧ pN ≤ 15 ∧ v = nI sN ∧ w9 = nI pN ∧ r = nI (dg (if sN = sd then own else oth) pN)) ∨ (u = 1 ∧ ¬ ((0 ≤ v ∧ v ≤ 1) ∧ (0 ≤ w9 ∧ w9 ≤ 15)))) (fun (u : Int32) t => va_P (dC, dI) vwCl ([(bx, .inr (3, [.int u, .int (nI k), .int (nI sd), .int tI, .int wI, .int cI, .ref bl, .ref ba, .ref bt, .ref bg, .ref be, .ref bf, .ref bw, .ref bs, .ref bm, .ref bn, .ref bb, .ref bu, .ref bh])), (ba, .inl (cyI, 32, .inl Af))]) t.heap) (zA [bx, ba])) 0 0 (zA [bx, ba]) := by
  refine Met.ofW (cc := cX6_at) (maxL := 3) (ret := (some .int)) (by decide) rfl ?_
  intro p e s m args below meth c s₁ B hml hv
  obtain ⟨rfl, hP, hK, hX⟩ := hv
  have hx := B.exec
  have hb := B.bytes
  have hr := B.returns
  have hts := atoms_spec (ws := wsX6_at) B.pre
  have hown : s.vm.findClass RX6 = some m.cls := findClass_of_methodNamed B.named
  have hlocks := B.notSynchronized
  have hinX6 : ∀ w ∈ wsX60, w ∈ wsX6_at := by decide +kernel
  have hl := lv_entry ([.ref bx, .int v, .int w9]) (n := 3) (Nat.le_of_ble_eq_true rfl)
  rw [lg_entry_eq]
  generalize (lg_sl ([.ref bx, .int v, .int w9]) ++ List.replicate (3 - (lg_sl ([.ref bx, .int v, .int w9])).length) Slot.unset).toArray = ls at hl ⊢
  have hl : lv_has ls 3 [(0, .ref bx), (1, .int v), (2, .int w9)] := hl
  have hS : va_S (zA [bx, ba]) s.heap s.heap [] := va_S.rf
  have hDD : zD (zA [bx, ba]) [bx, ba] := ⟨hnd, fun _ h => h⟩
  refine lv_aload_n hx hb dX6_at_0 rfl (lv_at hl 0 rfl) ?_
  refine lv_iconst (v := 0) hx hb dX6_at_1 (by decide) ?_
  refine va_put (D := (dC, dI)) (ci := 3) (v := .int 0) (ty := .int) (C := RX6) (T := TX6) (N := 19) hx hb hts hinX6 tyX6 tyX6_ok nmX6 hown hK hP (hDD.va rfl) hS 0 rfl rfl 0 (by decide) (hts (.fieldLink RX6 64 "RoyalUrTableModel" "thrown" "I") (List.mem_of_getElem? (i := 1) rfl)) (fun _ h9 => h9) rfl (by decide +kernel) rfl rfl (Nat.le_of_ble_eq_true rfl) dX6_at_2 (fun H locs hP hD9 hS => ?_)
  have hP : va_P (dC, dI) vwCl [(bx, .inr (3, [.int 0, .int (nI k), .int (nI sd), .int tI, .int wI, .int cI, .ref bl, .ref ba, .ref bt, .ref bg, .ref be, .ref bf, .ref bw, .ref bs, .ref bm, .ref bn, .ref bb, .ref bu, .ref bh])), (ba, .inl (cyI, 32, .inl Af))] H := hP
  refine lv_iload_n hx hb dX6_at_5 rfl (lv_at hl 1 rfl) ?_
  refine lv_iconst (v := 0) hx hb dX6_at_6 (by decide) ?_
  refine lv_iconst (v := 1) hx hb dX6_at_7 (by decide) ?_
  refine zro_i (va_runS (As := [.int v, .int 0, .int 1]) (rest := []) ⟨hx, hb, hml, hown, hts⟩ (c_X6_in l v 0 1) (va_cwS 3 hts gX6_at_X6_in rfl rfl rfl (by decide +kernel) ⟨Nat.le_of_ble_eq_true rfl, Nat.le_of_ble_eq_true rfl⟩) zPu rfl rfl hl.1 rfl (lv_room (Nat.le_of_ble_eq_true rfl)) dX6_at_8 ⟨Nat.zero_le _, Nat.zero_le _⟩) hP hS (fun H locs hP hS => ?_)
  refine lv_if_eq (tgt := 38) hx hb dX6_at_11 (by decide) (fun c_11 => ?_) (fun c_11 => ?_)
  · skip
    have c_11 := bI_0.mp c_11
    refine lv_aload_n hx hb dX6_at_38 rfl (lv_at hl 0 rfl) ?_
    refine lv_iconst (v := 1) hx hb dX6_at_39 (by decide) ?_
    refine zrw_i (w1 := fun _ : Unit => [(bx, .inr (3, [.int 1, .int (nI k), .int (nI sd), .int tI, .int wI, .int cI, .ref bl, .ref ba, .ref bt, .ref bg, .ref be, .ref bf, .ref bw, .ref bs, .ref bm, .ref bn, .ref bb, .ref bu, .ref bh]))]) (al := [bx]) (va_runV (As := [.int 1]) (rest := []) ⟨hx, hb, hml, hown, hts⟩ (c_X6_fails l dC dI cyI cyJ k bx bl ba bt bg be bf bw bs bm bn bb bu bh 0 (nI sd) tI wI cI 1 (z_nd hDD.1 [0] (by decide) rfl)) (cwV 1 hts gX6_at_X6_fails rfl rfl rfl (by decide +kernel) ⟨Nat.le_of_ble_eq_true rfl, Nat.le_of_ble_eq_true rfl⟩) (zPc_V (ci := 3) (q0 := 0) zB_T hP hK rfl rfl [0] rfl (fun _ _ _ => trivial)) rfl rfl hl.1 rfl (lv_room (Nat.le_of_ble_eq_true rfl)) dX6_at_40 ⟨Nat.zero_le _, Nat.zero_le _⟩) hP hDD hS [0] rfl (fun _ => rfl) (fun r_40 u_40 H locs hw_40 hP hS => ?_)
    have hP : va_P (dC, dI) vwCl [(bx, .inr (3, [.int 1, .int (nI k), .int (nI sd), .int tI, .int wI, .int cI, .ref bl, .ref ba, .ref bt, .ref bg, .ref be, .ref bf, .ref bw, .ref bs, .ref bm, .ref bn, .ref bb, .ref bu, .ref bh])), (ba, .inl (cyI, 32, .inl Af))] H := hP
    exact W.iret (v := r_40) hx hb hr (fun t ht hW => ⟨⟨_, 1, rfl, Or.inr ⟨rfl, fun h => zin_bf (n := 1) (by decide) c_11 h.1⟩, zh ht hP⟩, hS.F ht⟩) hS.2.2 dX6_at_43
  · skip
    have c_11 := bI_1.mp c_11
    obtain ⟨sN, hsN, rfl⟩ := zin_b (n := 1) (by decide) c_11
    refine lv_iload_n hx hb dX6_at_14 rfl (lv_at hl 2 rfl) ?_
    refine lv_iconst (v := 0) hx hb dX6_at_15 (by decide) ?_
    refine lv_bipush (v := 15) hx hb dX6_at_16 (by decide) ?_
    refine zro_i (va_runS (As := [.int w9, .int 0, .int 15]) (rest := []) ⟨hx, hb, hml, hown, hts⟩ (c_X6_in l w9 0 15) (va_cwS 3 hts gX6_at_X6_in rfl rfl rfl (by decide +kernel) ⟨Nat.le_of_ble_eq_true rfl, Nat.le_of_ble_eq_true rfl⟩) zPu rfl rfl hl.1 rfl (lv_room (Nat.le_of_ble_eq_true rfl)) dX6_at_18 ⟨Nat.zero_le _, Nat.zero_le _⟩) hP hS (fun H locs hP hS => ?_)
    refine lv_if_eq (tgt := 38) hx hb dX6_at_21 (by decide) (fun c_21 => ?_) (fun c_21 => ?_)
    · skip
      have c_21 := bI_0.mp c_21
      refine lv_aload_n hx hb dX6_at_38 rfl (lv_at hl 0 rfl) ?_
      refine lv_iconst (v := 1) hx hb dX6_at_39 (by decide) ?_
      refine zrw_i (w1 := fun _ : Unit => [(bx, .inr (3, [.int 1, .int (nI k), .int (nI sd), .int tI, .int wI, .int cI, .ref bl, .ref ba, .ref bt, .ref bg, .ref be, .ref bf, .ref bw, .ref bs, .ref bm, .ref bn, .ref bb, .ref bu, .ref bh]))]) (al := [bx]) (va_runV (As := [.int 1]) (rest := []) ⟨hx, hb, hml, hown, hts⟩ (c_X6_fails l dC dI cyI cyJ k bx bl ba bt bg be bf bw bs bm bn bb bu bh 0 (nI sd) tI wI cI 1 (z_nd hDD.1 [0] (by decide) rfl)) (cwV 1 hts gX6_at_X6_fails rfl rfl rfl (by decide +kernel) ⟨Nat.le_of_ble_eq_true rfl, Nat.le_of_ble_eq_true rfl⟩) (zPc_V (ci := 3) (q0 := 0) zB_T hP hK rfl rfl [0] rfl (fun _ _ _ => trivial)) rfl rfl hl.1 rfl (lv_room (Nat.le_of_ble_eq_true rfl)) dX6_at_40 ⟨Nat.zero_le _, Nat.zero_le _⟩) hP hDD hS [0] rfl (fun _ => rfl) (fun r_40 u_40 H locs hw_40 hP hS => ?_)
      have hP : va_P (dC, dI) vwCl [(bx, .inr (3, [.int 1, .int (nI k), .int (nI sd), .int tI, .int wI, .int cI, .ref bl, .ref ba, .ref bt, .ref bg, .ref be, .ref bf, .ref bw, .ref bs, .ref bm, .ref bn, .ref bb, .ref bu, .ref bh])), (ba, .inl (cyI, 32, .inl Af))] H := hP
      exact W.iret (v := r_40) hx hb hr (fun t ht hW => ⟨⟨_, 1, rfl, Or.inr ⟨rfl, fun h => zin_bf (n := 15) (by decide) c_21 h.2⟩, zh ht hP⟩, hS.F ht⟩) hS.2.2 dX6_at_43
    · skip
      have c_21 := bI_1.mp c_21
      obtain ⟨pN, hpN, rfl⟩ := zin_b (n := 15) (by decide) c_21
      refine lv_aload_n hx hb dX6_at_24 rfl (lv_at hl 0 rfl) ?_
      refine va_get (D := (dC, dI)) (ci := 3) (v := .ref ba) (C := RX6) (T := TX6) (N := 19) hx hb hts hinX6 hown hK hP 0 rfl rfl 7 (by decide) (hts (.fieldLink RX6 20 "RoyalUrTableModel" "at" "[I") (List.mem_of_getElem? (i := 2) rfl)) (fun _ h9 => h9) rfl dX6_at_25 ?_
      refine lv_bipush (v := 16) hx hb dX6_at_28 (by decide) ?_
      refine lv_iload_n hx hb dX6_at_30 rfl (lv_at hl 1 rfl) ?_
      refine lv_imul hx hb dX6_at_31 ?_
      refine zz_i (y := nI (16 * sN)) (pk_mul 16 sN) ?_
      refine lv_iload_n hx hb dX6_at_32 rfl (lv_at hl 2 rfl) ?_
      refine lv_iadd hx hb dX6_at_33 ?_
      refine zz_i (y := nI (16 * sN + pN)) (nI_add (16 * sN) pN) ?_
      refine zi_iald hx hb hK hP 1 0 rfl rfl (j := 16 * sN + pN) rfl (by omega) (by decide) dX6_at_34 ?_
      refine zz_i (y := nI (dg (if sN = sd then own else oth) pN)) (zRow_sel hsd hrow (by omega) (by omega)) ?_
      refine lv_goto (tgt := 43) hx hb dX6_at_35 (by decide) ?_
      exact W.iret (v := nI (dg (if sN = sd then own else oth) pN)) hx hb hr (fun t ht hW => ⟨⟨_, 0, rfl, Or.inl ⟨rfl, sN, pN, hsN, hpN, rfl, rfl, rfl⟩, zh ht hP⟩, hS.F ht⟩) hS.2.2 dX6_at_43

set_option maxHeartbeats 4000000 in
set_option maxRecDepth 100000 in
theorem c_X6_progress (l : Launch) (dC : Nat → ClassId) (dI : Nat → Nat → Nat) (cyI cyJ : ClassId) (k : Nat) (bx bl ba bt bg be bf bw bs bm bn bb bu bh : Nat) (thr tI wI cI : Int32) (Af : Nat → Int32) (sd own oth mm : Nat) (hsd : sd ≤ 1) (hrow : zRow Af 0 sd own oth) (hmk : zmk tI mm) (hmm : mm ≤ 4) (v : Int32) (hnd : [bx, ba].Nodup) : Met l yX6_progress wsX6_progress ({ frames := 1, cells := 0, slots := 0, locals := 25 }) (zPc [.ref bx, .int v] (dC, dI) vwCl [(cyI, .int), (cyJ, .long)] [(bx, .inr (3, [.int thr, .int (nI k), .int (nI sd), .int tI, .int wI, .int cI, .ref bl, .ref ba, .ref bt, .ref bg, .ref be, .ref bf, .ref bw, .ref bs, .ref bm, .ref bn, .ref bb, .ref bu, .ref bh])), (ba, .inl (cyI, 32, .inl Af))] (fun _ => True)) (va_Qi (fun (r : Int32) (u : Int32) => (u = 0 ∧ ∃ sN : Nat, sN ≤ 1 ∧ v = nI sN ∧ r = nI (psum (if sN = sd then own else oth) 16)) ∨ (u = 1 ∧ ¬ (0 ≤ v ∧ v ≤ 1))) (fun (u : Int32) t => va_P (dC, dI) vwCl ([(bx, .inr (3, [.int u, .int (nI k), .int (nI sd), .int tI, .int wI, .int cI, .ref bl, .ref ba, .ref bt, .ref bg, .ref be, .ref bf, .ref bw, .ref bs, .ref bm, .ref bn, .ref bb, .ref bu, .ref bh])), (ba, .inl (cyI, 32, .inl Af))]) t.heap) (zA [bx, ba])) 0 0 (zA [bx, ba]) := by
  refine Met.ofW (cc := cX6_progress) (maxL := 2) (ret := (some .int)) (by decide) rfl ?_
  intro p e s m args below meth c s₁ B hml hv
  obtain ⟨rfl, hP, hK, hX⟩ := hv
  have hx := B.exec
  have hb := B.bytes
  have hr := B.returns
  have hts := atoms_spec (ws := wsX6_progress) B.pre
  have hown : s.vm.findClass RX6 = some m.cls := findClass_of_methodNamed B.named
  have hlocks := B.notSynchronized
  have hinX6 : ∀ w ∈ wsX60, w ∈ wsX6_progress := by decide +kernel
  have hl := lv_entry ([.ref bx, .int v]) (n := 2) (Nat.le_of_ble_eq_true rfl)
  rw [lg_entry_eq]
  generalize (lg_sl ([.ref bx, .int v]) ++ List.replicate (2 - (lg_sl ([.ref bx, .int v])).length) Slot.unset).toArray = ls at hl ⊢
  have hl : lv_has ls 2 [(0, .ref bx), (1, .int v)] := hl
  have hS : va_S (zA [bx, ba]) s.heap s.heap [] := va_S.rf
  have hDD : zD (zA [bx, ba]) [bx, ba] := ⟨hnd, fun _ h => h⟩
  refine lv_aload_n hx hb dX6_progress_0 rfl (lv_at hl 0 rfl) ?_
  refine lv_iconst (v := 0) hx hb dX6_progress_1 (by decide) ?_
  refine va_put (D := (dC, dI)) (ci := 3) (v := .int 0) (ty := .int) (C := RX6) (T := TX6) (N := 19) hx hb hts hinX6 tyX6 tyX6_ok nmX6 hown hK hP (hDD.va rfl) hS 0 rfl rfl 0 (by decide) (hts (.fieldLink RX6 64 "RoyalUrTableModel" "thrown" "I") (List.mem_of_getElem? (i := 1) rfl)) (fun _ h9 => h9) rfl (by decide +kernel) rfl rfl (Nat.le_of_ble_eq_true rfl) dX6_progress_2 (fun H locs hP hD9 hS => ?_)
  have hP : va_P (dC, dI) vwCl [(bx, .inr (3, [.int 0, .int (nI k), .int (nI sd), .int tI, .int wI, .int cI, .ref bl, .ref ba, .ref bt, .ref bg, .ref be, .ref bf, .ref bw, .ref bs, .ref bm, .ref bn, .ref bb, .ref bu, .ref bh])), (ba, .inl (cyI, 32, .inl Af))] H := hP
  refine lv_iload_n hx hb dX6_progress_5 rfl (lv_at hl 1 rfl) ?_
  refine lv_iconst (v := 0) hx hb dX6_progress_6 (by decide) ?_
  refine lv_iconst (v := 1) hx hb dX6_progress_7 (by decide) ?_
  refine zro_i (va_runS (As := [.int v, .int 0, .int 1]) (rest := []) ⟨hx, hb, hml, hown, hts⟩ (c_X6_in l v 0 1) (va_cwS 3 hts gX6_progress_X6_in rfl rfl rfl (by decide +kernel) ⟨Nat.le_of_ble_eq_true rfl, Nat.le_of_ble_eq_true rfl⟩) zPu rfl rfl hl.1 rfl (lv_room (Nat.le_of_ble_eq_true rfl)) dX6_progress_8 ⟨Nat.zero_le _, Nat.zero_le _⟩) hP hS (fun H locs hP hS => ?_)
  refine lv_if_eq (tgt := 27) hx hb dX6_progress_11 (by decide) (fun c_11 => ?_) (fun c_11 => ?_)
  · skip
    have c_11 := bI_0.mp c_11
    refine lv_aload_n hx hb dX6_progress_27 rfl (lv_at hl 0 rfl) ?_
    refine lv_iconst (v := 1) hx hb dX6_progress_28 (by decide) ?_
    refine zrw_i (w1 := fun _ : Unit => [(bx, .inr (3, [.int 1, .int (nI k), .int (nI sd), .int tI, .int wI, .int cI, .ref bl, .ref ba, .ref bt, .ref bg, .ref be, .ref bf, .ref bw, .ref bs, .ref bm, .ref bn, .ref bb, .ref bu, .ref bh]))]) (al := [bx]) (va_runV (As := [.int 1]) (rest := []) ⟨hx, hb, hml, hown, hts⟩ (c_X6_fails l dC dI cyI cyJ k bx bl ba bt bg be bf bw bs bm bn bb bu bh 0 (nI sd) tI wI cI 1 (z_nd hDD.1 [0] (by decide) rfl)) (cwV 1 hts gX6_progress_X6_fails rfl rfl rfl (by decide +kernel) ⟨Nat.le_of_ble_eq_true rfl, Nat.le_of_ble_eq_true rfl⟩) (zPc_V (ci := 3) (q0 := 0) zB_T hP hK rfl rfl [0] rfl (fun _ _ _ => trivial)) rfl rfl hl.1 rfl (lv_room (Nat.le_of_ble_eq_true rfl)) dX6_progress_29 ⟨Nat.zero_le _, Nat.zero_le _⟩) hP hDD hS [0] rfl (fun _ => rfl) (fun r_29 u_29 H locs hw_29 hP hS => ?_)
    have hP : va_P (dC, dI) vwCl [(bx, .inr (3, [.int 1, .int (nI k), .int (nI sd), .int tI, .int wI, .int cI, .ref bl, .ref ba, .ref bt, .ref bg, .ref be, .ref bf, .ref bw, .ref bs, .ref bm, .ref bn, .ref bb, .ref bu, .ref bh])), (ba, .inl (cyI, 32, .inl Af))] H := hP
    exact W.iret (v := r_29) hx hb hr (fun t ht hW => ⟨⟨_, 1, rfl, Or.inr ⟨rfl, zin_bf (n := 1) (by decide) c_11⟩, zh ht hP⟩, hS.F ht⟩) hS.2.2 dX6_progress_32
  · skip
    have c_11 := bI_1.mp c_11
    obtain ⟨sN, hsN, rfl⟩ := zin_b (n := 1) (by decide) c_11
    refine lv_aload_n hx hb dX6_progress_14 rfl (lv_at hl 0 rfl) ?_
    refine lv_aload_n hx hb dX6_progress_15 rfl (lv_at hl 0 rfl) ?_
    refine va_get (D := (dC, dI)) (ci := 3) (v := .ref ba) (C := RX6) (T := TX6) (N := 19) hx hb hts hinX6 hown hK hP 0 rfl rfl 7 (by decide) (hts (.fieldLink RX6 20 "RoyalUrTableModel" "at" "[I") (List.mem_of_getElem? (i := 2) rfl)) (fun _ h9 => h9) rfl dX6_progress_16 ?_
    refine lv_iconst (v := 0) hx hb dX6_progress_19 (by decide) ?_
    refine lv_iload_n hx hb dX6_progress_20 rfl (lv_at hl 1 rfl) ?_
    refine zro_i (va_runV (As := [.ref ba, .int 0, .int (nI sN)]) (rest := []) ⟨hx, hb, hml, hown, hts⟩ (c_X6_progressOf l dC dI cyI cyJ bx ba 32 (by omega) Af 0 sN (if sN = sd then own else oth) (by omega) (by omega) (zRow_half hsd hrow (by omega))) (cwV 3 hts gX6_progress_X6_progressOf rfl rfl rfl (by decide +kernel) ⟨Nat.le_of_ble_eq_true rfl, Nat.le_of_ble_eq_true rfl⟩) (zPc_V (ci := 3) (q0 := 0) zB_T hP hK rfl rfl [1] rfl (fun _ _ _ => trivial)) rfl rfl hl.1 rfl (lv_room (Nat.le_of_ble_eq_true rfl)) dX6_progress_21 ⟨Nat.zero_le _, Nat.zero_le _⟩) hP hS (fun H locs hP hS => ?_)
    refine lv_goto (tgt := 32) hx hb dX6_progress_24 (by decide) ?_
    exact W.iret (v := nI (psum (if sN = sd then own else oth) 16)) hx hb hr (fun t ht hW => ⟨⟨_, 0, rfl, Or.inl ⟨rfl, sN, hsN, rfl, rfl⟩, zh ht hP⟩, hS.F ht⟩) hS.2.2 dX6_progress_32

set_option maxHeartbeats 4000000 in
set_option maxRecDepth 100000 in
theorem c_X6_captured (l : Launch) (dC : Nat → ClassId) (dI : Nat → Nat → Nat) (cyI cyJ : ClassId) (k : Nat) (bx bl ba bt bg be bf bw bs bm bn bb bu bh : Nat) (thr tI wI cI lo lq : Int32) (lf : Nat → Int32) (sd : Nat) (hsd : sd ≤ 1) (hl1 : lf sd = lo) (hl2 : lf (1 - sd) = lq) (v : Int32) (hnd : [bx, bl].Nodup) : Met l yX6_captured wsX6_captured ({ frames := 1, cells := 0, slots := 0, locals := 22 }) (zPc [.ref bx, .int v] (dC, dI) vwCl [(cyI, .int), (cyJ, .long)] [(bx, .inr (3, [.int thr, .int (nI k), .int (nI sd), .int tI, .int wI, .int cI, .ref bl, .ref ba, .ref bt, .ref bg, .ref be, .ref bf, .ref bw, .ref bs, .ref bm, .ref bn, .ref bb, .ref bu, .ref bh])), (bl, .inl (cyI, 2, .inl lf))] (fun _ => True)) (va_Qi (fun (r : Int32) (u : Int32) => (u = 0 ∧ ∃ sN : Nat, sN ≤ 1 ∧ v = nI sN ∧ r = (if sN = sd then lo else lq)) ∨ (u = 1 ∧ ¬ (0 ≤ v ∧ v ≤ 1))) (fun (u : Int32) t => va_P (dC, dI) vwCl ([(bx, .inr (3, [.int u, .int (nI k), .int (nI sd), .int tI, .int wI, .int cI, .ref bl, .ref ba, .ref bt, .ref bg, .ref be, .ref bf, .ref bw, .ref bs, .ref bm, .ref bn, .ref bb, .ref bu, .ref bh])), (bl, .inl (cyI, 2, .inl lf))]) t.heap) (zA [bx, bl])) 0 0 (zA [bx, bl]) := by
  refine Met.ofW (cc := cX6_captured) (maxL := 2) (ret := (some .int)) (by decide) rfl ?_
  intro p e s m args below meth c s₁ B hml hv
  obtain ⟨rfl, hP, hK, hX⟩ := hv
  have hx := B.exec
  have hb := B.bytes
  have hr := B.returns
  have hts := atoms_spec (ws := wsX6_captured) B.pre
  have hown : s.vm.findClass RX6 = some m.cls := findClass_of_methodNamed B.named
  have hlocks := B.notSynchronized
  have hinX6 : ∀ w ∈ wsX60, w ∈ wsX6_captured := by decide +kernel
  have hl := lv_entry ([.ref bx, .int v]) (n := 2) (Nat.le_of_ble_eq_true rfl)
  rw [lg_entry_eq]
  generalize (lg_sl ([.ref bx, .int v]) ++ List.replicate (2 - (lg_sl ([.ref bx, .int v])).length) Slot.unset).toArray = ls at hl ⊢
  have hl : lv_has ls 2 [(0, .ref bx), (1, .int v)] := hl
  have hS : va_S (zA [bx, bl]) s.heap s.heap [] := va_S.rf
  have hDD : zD (zA [bx, bl]) [bx, bl] := ⟨hnd, fun _ h => h⟩
  refine lv_aload_n hx hb dX6_captured_0 rfl (lv_at hl 0 rfl) ?_
  refine lv_iconst (v := 0) hx hb dX6_captured_1 (by decide) ?_
  refine va_put (D := (dC, dI)) (ci := 3) (v := .int 0) (ty := .int) (C := RX6) (T := TX6) (N := 19) hx hb hts hinX6 tyX6 tyX6_ok nmX6 hown hK hP (hDD.va rfl) hS 0 rfl rfl 0 (by decide) (hts (.fieldLink RX6 64 "RoyalUrTableModel" "thrown" "I") (List.mem_of_getElem? (i := 1) rfl)) (fun _ h9 => h9) rfl (by decide +kernel) rfl rfl (Nat.le_of_ble_eq_true rfl) dX6_captured_2 (fun H locs hP hD9 hS => ?_)
  have hP : va_P (dC, dI) vwCl [(bx, .inr (3, [.int 0, .int (nI k), .int (nI sd), .int tI, .int wI, .int cI, .ref bl, .ref ba, .ref bt, .ref bg, .ref be, .ref bf, .ref bw, .ref bs, .ref bm, .ref bn, .ref bb, .ref bu, .ref bh])), (bl, .inl (cyI, 2, .inl lf))] H := hP
  refine lv_iload_n hx hb dX6_captured_5 rfl (lv_at hl 1 rfl) ?_
  refine lv_iconst (v := 0) hx hb dX6_captured_6 (by decide) ?_
  refine lv_iconst (v := 1) hx hb dX6_captured_7 (by decide) ?_
  refine zro_i (va_runS (As := [.int v, .int 0, .int 1]) (rest := []) ⟨hx, hb, hml, hown, hts⟩ (c_X6_in l v 0 1) (va_cwS 3 hts gX6_captured_X6_in rfl rfl rfl (by decide +kernel) ⟨Nat.le_of_ble_eq_true rfl, Nat.le_of_ble_eq_true rfl⟩) zPu rfl rfl hl.1 rfl (lv_room (Nat.le_of_ble_eq_true rfl)) dX6_captured_8 ⟨Nat.zero_le _, Nat.zero_le _⟩) hP hS (fun H locs hP hS => ?_)
  refine lv_if_eq (tgt := 23) hx hb dX6_captured_11 (by decide) (fun c_11 => ?_) (fun c_11 => ?_)
  · skip
    have c_11 := bI_0.mp c_11
    refine lv_aload_n hx hb dX6_captured_23 rfl (lv_at hl 0 rfl) ?_
    refine lv_iconst (v := 1) hx hb dX6_captured_24 (by decide) ?_
    refine zrw_i (w1 := fun _ : Unit => [(bx, .inr (3, [.int 1, .int (nI k), .int (nI sd), .int tI, .int wI, .int cI, .ref bl, .ref ba, .ref bt, .ref bg, .ref be, .ref bf, .ref bw, .ref bs, .ref bm, .ref bn, .ref bb, .ref bu, .ref bh]))]) (al := [bx]) (va_runV (As := [.int 1]) (rest := []) ⟨hx, hb, hml, hown, hts⟩ (c_X6_fails l dC dI cyI cyJ k bx bl ba bt bg be bf bw bs bm bn bb bu bh 0 (nI sd) tI wI cI 1 (z_nd hDD.1 [0] (by decide) rfl)) (cwV 1 hts gX6_captured_X6_fails rfl rfl rfl (by decide +kernel) ⟨Nat.le_of_ble_eq_true rfl, Nat.le_of_ble_eq_true rfl⟩) (zPc_V (ci := 3) (q0 := 0) zB_T hP hK rfl rfl [0] rfl (fun _ _ _ => trivial)) rfl rfl hl.1 rfl (lv_room (Nat.le_of_ble_eq_true rfl)) dX6_captured_25 ⟨Nat.zero_le _, Nat.zero_le _⟩) hP hDD hS [0] rfl (fun _ => rfl) (fun r_25 u_25 H locs hw_25 hP hS => ?_)
    have hP : va_P (dC, dI) vwCl [(bx, .inr (3, [.int 1, .int (nI k), .int (nI sd), .int tI, .int wI, .int cI, .ref bl, .ref ba, .ref bt, .ref bg, .ref be, .ref bf, .ref bw, .ref bs, .ref bm, .ref bn, .ref bb, .ref bu, .ref bh])), (bl, .inl (cyI, 2, .inl lf))] H := hP
    exact W.iret (v := r_25) hx hb hr (fun t ht hW => ⟨⟨_, 1, rfl, Or.inr ⟨rfl, zin_bf (n := 1) (by decide) c_11⟩, zh ht hP⟩, hS.F ht⟩) hS.2.2 dX6_captured_28
  · skip
    have c_11 := bI_1.mp c_11
    obtain ⟨sN, hsN, rfl⟩ := zin_b (n := 1) (by decide) c_11
    refine lv_aload_n hx hb dX6_captured_14 rfl (lv_at hl 0 rfl) ?_
    refine va_get (D := (dC, dI)) (ci := 3) (v := .ref bl) (C := RX6) (T := TX6) (N := 19) hx hb hts hinX6 hown hK hP 0 rfl rfl 6 (by decide) (hts (.fieldLink RX6 16 "RoyalUrTableModel" "lost" "[I") (List.mem_of_getElem? (i := 2) rfl)) (fun _ h9 => h9) rfl dX6_captured_15 ?_
    refine lv_iload_n hx hb dX6_captured_18 rfl (lv_at hl 1 rfl) ?_
    refine zi_iald hx hb hK hP 1 0 rfl rfl (j := sN) rfl (by omega) (by decide) dX6_captured_19 ?_
    refine lv_goto (tgt := 28) hx hb dX6_captured_20 (by decide) ?_
    exact W.iret (v := lf sN) hx hb hr (fun t ht hW => ⟨⟨_, 0, rfl, Or.inl ⟨rfl, sN, hsN, rfl, (by by_cases e9 : sN = sd; rw [if_pos e9, e9]; exact hl1; rw [if_neg e9, show sN = 1 - sd by omega]; exact hl2)⟩, zh ht hP⟩, hS.F ht⟩) hS.2.2 dX6_captured_28

set_option maxHeartbeats 4000000 in
set_option maxRecDepth 100000 in
theorem c_X6_moves (l : Launch) (dC : Nat → ClassId) (dI : Nat → Nat → Nat) (cyI cyJ : ClassId) (k : Nat) (bx bl ba bt bg be bf bw bs bm bn bb bu bh : Nat) (thr tI wI cI : Int32) (Af : Nat → Int32) (sd own oth mm : Nat) (hsd : sd ≤ 1) (hrow : zRow Af 0 sd own oth) (hmk : zmk tI mm) (hmm : mm ≤ 4) (hnd : [bx, ba].Nodup) : Met l yX6_moves wsX6_moves ({ frames := 2, cells := 0, slots := 0, locals := 49 }) (zPc [.ref bx] (dC, dI) vwCl [(cyI, .int), (cyJ, .long)] [(bx, .inr (3, [.int thr, .int (nI k), .int (nI sd), .int tI, .int wI, .int cI, .ref bl, .ref ba, .ref bt, .ref bg, .ref be, .ref bf, .ref bw, .ref bs, .ref bm, .ref bn, .ref bb, .ref bu, .ref bh])), (ba, .inl (cyI, 32, .inl Af))] (fun _ => True)) (va_Qi (fun (r : Int32) (_ : Unit) => r = nI (zNum own oth mm 15)) (fun (u : Unit) t => va_P (dC, dI) vwCl ([(bx, .inr (3, [.int 0, .int (nI k), .int (nI sd), .int tI, .int wI, .int cI, .ref bl, .ref ba, .ref bt, .ref bg, .ref be, .ref bf, .ref bw, .ref bs, .ref bm, .ref bn, .ref bb, .ref bu, .ref bh])), (ba, .inl (cyI, 32, .inl Af))]) t.heap) (zA [bx, ba])) 0 0 (zA [bx, ba]) := by
  refine Met.ofW (cc := cX6_moves) (maxL := 1) (ret := (some .int)) (by decide) rfl ?_
  intro p e s m args below meth c s₁ B hml hv
  obtain ⟨rfl, hP, hK, hX⟩ := hv
  have hx := B.exec
  have hb := B.bytes
  have hr := B.returns
  have hts := atoms_spec (ws := wsX6_moves) B.pre
  have hown : s.vm.findClass RX6 = some m.cls := findClass_of_methodNamed B.named
  have hlocks := B.notSynchronized
  have hinX6 : ∀ w ∈ wsX60, w ∈ wsX6_moves := by decide +kernel
  have hl := lv_entry ([.ref bx]) (n := 1) (Nat.le_of_ble_eq_true rfl)
  rw [lg_entry_eq]
  generalize (lg_sl ([.ref bx]) ++ List.replicate (1 - (lg_sl ([.ref bx])).length) Slot.unset).toArray = ls at hl ⊢
  have hl : lv_has ls 1 [(0, .ref bx)] := hl
  have hS : va_S (zA [bx, ba]) s.heap s.heap [] := va_S.rf
  have hDD : zD (zA [bx, ba]) [bx, ba] := ⟨hnd, fun _ h => h⟩
  refine lv_aload_n hx hb dX6_moves_0 rfl (lv_at hl 0 rfl) ?_
  refine lv_iconst (v := 0) hx hb dX6_moves_1 (by decide) ?_
  refine va_put (D := (dC, dI)) (ci := 3) (v := .int 0) (ty := .int) (C := RX6) (T := TX6) (N := 19) hx hb hts hinX6 tyX6 tyX6_ok nmX6 hown hK hP (hDD.va rfl) hS 0 rfl rfl 0 (by decide) (hts (.fieldLink RX6 64 "RoyalUrTableModel" "thrown" "I") (List.mem_of_getElem? (i := 1) rfl)) (fun _ h9 => h9) rfl (by decide +kernel) rfl rfl (Nat.le_of_ble_eq_true rfl) dX6_moves_2 (fun H locs hP hD9 hS => ?_)
  have hP : va_P (dC, dI) vwCl [(bx, .inr (3, [.int 0, .int (nI k), .int (nI sd), .int tI, .int wI, .int cI, .ref bl, .ref ba, .ref bt, .ref bg, .ref be, .ref bf, .ref bw, .ref bs, .ref bm, .ref bn, .ref bb, .ref bu, .ref bh])), (ba, .inl (cyI, 32, .inl Af))] H := hP
  refine lv_aload_n hx hb dX6_moves_5 rfl (lv_at hl 0 rfl) ?_
  refine va_get (D := (dC, dI)) (ci := 3) (v := .int tI) (C := RX6) (T := TX6) (N := 19) hx hb hts hinX6 hown hK hP 0 rfl rfl 3 (by decide) (hts (.fieldLink RX6 9 "RoyalUrTableModel" "told" "I") (List.mem_of_getElem? (i := 2) rfl)) (fun _ h9 => h9) rfl dX6_moves_6 ?_
  refine lv_iconst (v := -1) hx hb dX6_moves_9 (by decide) ?_
  refine lv_icmp_ne (tgt := 17) hx hb dX6_moves_10 (by decide) (fun c_10 => ?_) (fun c_10 => ?_)
  · skip
    refine lv_aload_n hx hb dX6_moves_17 rfl (lv_at hl 0 rfl) ?_
    refine lv_aload_n hx hb dX6_moves_18 rfl (lv_at hl 0 rfl) ?_
    refine va_get (D := (dC, dI)) (ci := 3) (v := .int tI) (C := RX6) (T := TX6) (N := 19) hx hb hts hinX6 hown hK hP 0 rfl rfl 3 (by decide) (hts (.fieldLink RX6 9 "RoyalUrTableModel" "told" "I") (List.mem_of_getElem? (i := 2) rfl)) (fun _ h9 => h9) rfl dX6_moves_19 ?_
    refine zz_i (y := nI mm) (zmk_ne hmk c_10) ?_
    refine zro_i (va_runV (As := [.int (nI mm)]) (rest := []) ⟨hx, hb, hml, hown, hts⟩ (c_X6_countMoves l dC dI cyI cyJ k bx bl ba bt bg be bf bw bs bm bn bb bu bh 0 tI wI cI Af sd own oth mm hsd hrow (by omega)) (cwV 1 hts gX6_moves_X6_countMoves rfl rfl rfl (by decide +kernel) ⟨Nat.le_of_ble_eq_true rfl, Nat.le_of_ble_eq_true rfl⟩) (zPc_V (ci := 3) (q0 := 0) zB_T hP hK rfl rfl [0, 1] rfl (fun _ _ _ => trivial)) rfl rfl hl.1 rfl (lv_room (Nat.le_of_ble_eq_true rfl)) dX6_moves_22 ⟨Nat.zero_le _, Nat.zero_le _⟩) hP hS (fun H locs hP hS => ?_)
    exact W.iret (v := nI (zNum own oth mm 15)) hx hb hr (fun t ht hW => ⟨⟨_, (), rfl, rfl, zh ht hP⟩, hS.F ht⟩) hS.2.2 dX6_moves_25
  · skip
    refine lv_iconst (v := 0) hx hb dX6_moves_13 (by decide) ?_
    refine lv_goto (tgt := 25) hx hb dX6_moves_14 (by decide) ?_
    exact W.iret (v := 0) hx hb hr (fun t ht hW => ⟨⟨_, (), rfl, (by rw [zmk_0 hmk hmm c_10, zNum_0]; rfl), zh ht hP⟩, hS.F ht⟩) hS.2.2 dX6_moves_25

set_option maxHeartbeats 4000000 in
set_option maxRecDepth 100000 in
theorem c_X6_moveAt (l : Launch) (dC : Nat → ClassId) (dI : Nat → Nat → Nat) (cyI cyJ : ClassId) (k : Nat) (bx bl ba bt bg be bf bw bs bm bn bb bu bh : Nat) (thr tI wI cI : Int32) (Af : Nat → Int32) (sd own oth mm : Nat) (hsd : sd ≤ 1) (hrow : zRow Af 0 sd own oth) (hmk : zmk tI mm) (hmm : mm ≤ 4) (idx : Int32) (hnd : [bx, ba].Nodup) : Met l yX6_moveAt wsX6_moveAt ({ frames := 1, cells := 0, slots := 0, locals := 26 }) (zPc [.ref bx, .int idx] (dC, dI) vwCl [(cyI, .int), (cyJ, .long)] [(bx, .inr (3, [.int thr, .int (nI k), .int (nI sd), .int tI, .int wI, .int cI, .ref bl, .ref ba, .ref bt, .ref bg, .ref be, .ref bf, .ref bw, .ref bs, .ref bm, .ref bn, .ref bb, .ref bu, .ref bh])), (ba, .inl (cyI, 32, .inl Af))] (fun _ => True)) (va_Qi (fun (r : Int32) (_ : Unit) => r = zMA own oth mm idx 0 15) (fun (u : Unit) t => va_P (dC, dI) vwCl ([(bx, .inr (3, [.int 0, .int (nI k), .int (nI sd), .int tI, .int wI, .int cI, .ref bl, .ref ba, .ref bt, .ref bg, .ref be, .ref bf, .ref bw, .ref bs, .ref bm, .ref bn, .ref bb, .ref bu, .ref bh])), (ba, .inl (cyI, 32, .inl Af))]) t.heap) (zA [bx, ba])) 0 0 (zA [bx, ba]) := by
  refine Met.ofW (cc := cX6_moveAt) (maxL := 5) (ret := (some .int)) (by decide) rfl ?_
  intro p e s m args below meth c s₁ B hml hv
  obtain ⟨rfl, hP, hK, hX⟩ := hv
  have hx := B.exec
  have hb := B.bytes
  have hr := B.returns
  have hts := atoms_spec (ws := wsX6_moveAt) B.pre
  have hown : s.vm.findClass RX6 = some m.cls := findClass_of_methodNamed B.named
  have hlocks := B.notSynchronized
  have hinX6 : ∀ w ∈ wsX60, w ∈ wsX6_moveAt := by decide +kernel
  have hl := lv_entry ([.ref bx, .int idx]) (n := 5) (Nat.le_of_ble_eq_true rfl)
  rw [lg_entry_eq]
  generalize (lg_sl ([.ref bx, .int idx]) ++ List.replicate (5 - (lg_sl ([.ref bx, .int idx])).length) Slot.unset).toArray = ls at hl ⊢
  have hl : lv_has ls 5 [(0, .ref bx), (1, .int idx)] := hl
  have hS : va_S (zA [bx, ba]) s.heap s.heap [] := va_S.rf
  have hDD : zD (zA [bx, ba]) [bx, ba] := ⟨hnd, fun _ h => h⟩
  generalize hQe : MQ below _ _ _ _ _ _ = Q
  refine lv_aload_n hx hb dX6_moveAt_0 rfl (lv_at hl 0 rfl) ?_
  refine lv_iconst (v := 0) hx hb dX6_moveAt_1 (by decide) ?_
  refine va_put (D := (dC, dI)) (ci := 3) (v := .int 0) (ty := .int) (C := RX6) (T := TX6) (N := 19) hx hb hts hinX6 tyX6 tyX6_ok nmX6 hown hK hP (hDD.va rfl) hS 0 rfl rfl 0 (by decide) (hts (.fieldLink RX6 64 "RoyalUrTableModel" "thrown" "I") (List.mem_of_getElem? (i := 1) rfl)) (fun _ h9 => h9) rfl (by decide +kernel) rfl rfl (Nat.le_of_ble_eq_true rfl) dX6_moveAt_2 (fun H locs hP hD9 hS => ?_)
  have hP : va_P (dC, dI) vwCl [(bx, .inr (3, [.int 0, .int (nI k), .int (nI sd), .int tI, .int wI, .int cI, .ref bl, .ref ba, .ref bt, .ref bg, .ref be, .ref bf, .ref bw, .ref bs, .ref bm, .ref bn, .ref bb, .ref bu, .ref bh])), (ba, .inl (cyI, 32, .inl Af))] H := hP
  refine lv_iload_n hx hb dX6_moveAt_5 rfl (lv_at hl 1 rfl) ?_
  refine lv_istore_n (lv' := [(2, .int idx), (0, .ref bx), (1, .int idx)]) hx hb dX6_moveAt_6 rfl hl (by decide) rfl (fun ls hl => ?_)
  refine lv_iconst (v := -1) hx hb dX6_moveAt_7 (by decide) ?_
  refine lv_istore_n (lv' := [(3, .int (-1)), (2, .int idx), (0, .ref bx), (1, .int idx)]) hx hb dX6_moveAt_8 rfl hl (by decide) rfl (fun ls hl => ?_)
  refine lv_iconst (v := 0) hx hb dX6_moveAt_9 (by decide) ?_
  refine lv_istore (lv' := [(4, .int 0), (3, .int (-1)), (2, .int idx), (0, .ref bx), (1, .int idx)]) hx hb dX6_moveAt_10 hl (by decide) rfl (fun ls hl => ?_)
  have lp : ∀ (n9 : Nat) (i : Nat) (lv : Int32) (fv : Int32), i ≤ 15 → lv = idx - nI (zNum own oth mm i) → fv = zMF own oth mm idx i → (tI = -1 → fv = -1) → 15 - i < n9 → ∀ (H : Heap) (locs : List Loc), va_P (dC, dI) vwCl [(bx, .inr (3, [.int 0, .int (nI k), .int (nI sd), .int tI, .int wI, .int cI, .ref bl, .ref ba, .ref bt, .ref bg, .ref be, .ref bf, .ref bw, .ref bs, .ref bm, .ref bn, .ref bb, .ref bu, .ref bh])), (ba, .inl (cyI, 32, .inl Af))] H → va_S (zA [bx, ba]) s.heap H locs → ∀ ls : Array Slot, lv_has ls 5 [(4, .int (nI i)), (3, .int fv), (2, .int lv), (0, .ref bx), (1, .int idx)] → W p l e (headSpec wsX6_moveAt ({ frames := 1, cells := 0, slots := 0, locals := 26 })).room s m ([.ref bx, .int idx] : List Value).toArray below meth c H locs 0 0 Q (F0 m 12 ls []) := by
    intro n9
    induction n9 with
    | zero => intro i lv fv hi2 hlv hfv ht0 hm9; exact absurd hm9 (Nat.not_lt_zero _)
    | succ n9 ih12 =>
      intro i lv fv hi2 hlv hfv ht0 hm9 H locs hP hS ls hl
      refine lv_iload hx hb dX6_moveAt_12 (lv_at hl 0 rfl) ?_
      refine lv_bipush (v := 15) hx hb dX6_moveAt_14 (by decide) ?_
      refine lv_icmp_ge (tgt := 68) hx hb dX6_moveAt_16 (by decide) (fun c_16 => ?_) (fun c_16 => ?_)
      · skip
        have c_16 : 15 ≤ i := (nI_leI (a := 15) (b := i) (by omega) (by omega)).mp c_16
        refine lv_iload_n hx hb dX6_moveAt_68 rfl (lv_at hl 4 rfl) ?_
        refine lv_if_ge (tgt := 76) hx hb dX6_moveAt_69 (by decide) (fun c_69 => ?_) (fun c_69 => ?_)
        · skip
          refine lv_iload_n hx hb dX6_moveAt_76 rfl (lv_at hl 1 rfl) ?_
          subst hQe
          exact W.iret (v := fv) hx hb hr (fun t ht hW => ⟨⟨_, (), rfl, (by rw [hfv, show i = 15 by omega, zMF_15]), zh ht hP⟩, hS.F ht⟩) hS.2.2 dX6_moveAt_77
        · skip
          refine lv_iconst (v := -1) hx hb dX6_moveAt_72 (by decide) ?_
          refine lv_goto (tgt := 77) hx hb dX6_moveAt_73 (by decide) ?_
          subst hQe
          exact W.iret (v := -1) hx hb hr (fun t ht hW => ⟨⟨_, (), rfl, (zMA_neg (Int32.not_le.mp c_69)).symm, zh ht hP⟩, hS.F ht⟩) hS.2.2 dX6_moveAt_77
      · skip
        have c_16 : ¬ 15 ≤ i := fun h9 => c_16 ((nI_leI (a := 15) (b := i) (by omega) (by omega)).mpr h9)
        refine lv_aload_n hx hb dX6_moveAt_19 rfl (lv_at hl 3 rfl) ?_
        refine va_get (D := (dC, dI)) (ci := 3) (v := .int tI) (C := RX6) (T := TX6) (N := 19) hx hb hts hinX6 hown hK hP 0 rfl rfl 3 (by decide) (hts (.fieldLink RX6 9 "RoyalUrTableModel" "told" "I") (List.mem_of_getElem? (i := 2) rfl)) (fun _ h9 => h9) rfl dX6_moveAt_20 ?_
        refine lv_iconst (v := -1) hx hb dX6_moveAt_23 (by decide) ?_
        refine lv_icmp_eq (tgt := 68) hx hb dX6_moveAt_24 (by decide) (fun c_24 => ?_) (fun c_24 => ?_)
        · skip
          refine lv_iload_n hx hb dX6_moveAt_68 rfl (lv_at hl 4 rfl) ?_
          refine lv_if_ge (tgt := 76) hx hb dX6_moveAt_69 (by decide) (fun c_69 => ?_) (fun c_69 => ?_)
          · skip
            refine lv_iload_n hx hb dX6_moveAt_76 rfl (lv_at hl 1 rfl) ?_
            subst hQe
            exact W.iret (v := fv) hx hb hr (fun t ht hW => ⟨⟨_, (), rfl, (by rw [ht0 c_24, zmk_0 hmk hmm c_24, zMA_0]), zh ht hP⟩, hS.F ht⟩) hS.2.2 dX6_moveAt_77
          · skip
            refine lv_iconst (v := -1) hx hb dX6_moveAt_72 (by decide) ?_
            refine lv_goto (tgt := 77) hx hb dX6_moveAt_73 (by decide) ?_
            subst hQe
            exact W.iret (v := -1) hx hb hr (fun t ht hW => ⟨⟨_, (), rfl, (zMA_neg (Int32.not_le.mp c_69)).symm, zh ht hP⟩, hS.F ht⟩) hS.2.2 dX6_moveAt_77
        · skip
          refine lv_aload_n hx hb dX6_moveAt_27 rfl (lv_at hl 3 rfl) ?_
          refine va_get (D := (dC, dI)) (ci := 3) (v := .ref ba) (C := RX6) (T := TX6) (N := 19) hx hb hts hinX6 hown hK hP 0 rfl rfl 7 (by decide) (hts (.fieldLink RX6 20 "RoyalUrTableModel" "at" "[I") (List.mem_of_getElem? (i := 3) rfl)) (fun _ h9 => h9) rfl dX6_moveAt_28 ?_
          refine lv_iconst (v := 0) hx hb dX6_moveAt_31 (by decide) ?_
          refine lv_aload_n hx hb dX6_moveAt_32 rfl (lv_at hl 3 rfl) ?_
          refine va_get (D := (dC, dI)) (ci := 3) (v := .int (nI sd)) (C := RX6) (T := TX6) (N := 19) hx hb hts hinX6 hown hK hP 0 rfl rfl 2 (by decide) (hts (.fieldLink RX6 128 "RoyalUrTableModel" "side" "I") (List.mem_of_getElem? (i := 4) rfl)) (fun _ h9 => h9) rfl dX6_moveAt_33 ?_
          refine lv_iload hx hb dX6_moveAt_36 (lv_at hl 0 rfl) ?_
          refine lv_aload_n hx hb dX6_moveAt_38 rfl (lv_at hl 3 rfl) ?_
          refine va_get (D := (dC, dI)) (ci := 3) (v := .int tI) (C := RX6) (T := TX6) (N := 19) hx hb hts hinX6 hown hK hP 0 rfl rfl 3 (by decide) (hts (.fieldLink RX6 9 "RoyalUrTableModel" "told" "I") (List.mem_of_getElem? (i := 2) rfl)) (fun _ h9 => h9) rfl dX6_moveAt_39 ?_
          refine zz_i (y := nI mm) (zmk_ne hmk c_24) ?_
          refine zro_i (va_runS (As := [.ref ba, .int 0, .int (nI sd), .int (nI i), .int (nI mm)]) (rest := []) ⟨hx, hb, hml, hown, hts⟩ (c_X6_canMove l dC dI cyI cyJ ba 32 (by omega) Af 0 sd own oth i mm (by omega) hsd hrow (by omega) hmm) (va_cwS 5 hts gX6_moveAt_X6_canMove rfl rfl rfl (by decide +kernel) ⟨Nat.le_of_ble_eq_true rfl, Nat.le_of_ble_eq_true rfl⟩) (zPc_S zB_T hP hK [1] rfl (fun _ _ _ => trivial)) rfl rfl hl.1 rfl (lv_room (Nat.le_of_ble_eq_true rfl)) dX6_moveAt_42 ⟨Nat.zero_le _, Nat.zero_le _⟩) hP hS (fun H locs hP hS => ?_)
          refine lv_if_eq (tgt := 62) hx hb dX6_moveAt_45 (by decide) (fun c_45 => ?_) (fun c_45 => ?_)
          · skip
            have c_45 := bI_0.mp c_45
            refine lv_iinc (v := nI (i + 1)) (lv' := [(4, .int (nI (i + 1))), (3, .int fv), (2, .int lv), (0, .ref bx), (1, .int idx)]) hx hb dX6_moveAt_62 hl (k := 0) rfl (nI_1 i) (by decide) rfl (fun ls hl => ?_)
            refine lv_goto (tgt := 12) hx hb dX6_moveAt_65 (by decide) ?_
            exact ih12 (i + 1) _ _ (by omega) (by rw [zNum_s, if_neg (by rw [c_45]; decide), Nat.add_zero]; exact hlv) (by rw [zMF_s, if_neg (fun h => by rw [h.1] at c_45; cases c_45)]; exact hfv) (fun h => absurd h c_24) (by omega) _ _ hP hS _ (lv_sub hl [0, 1, 2, 3, 4] rfl)
          · skip
            have c_45 := bI_1.mp c_45
            refine lv_iload_n hx hb dX6_moveAt_48 rfl (lv_at hl 2 rfl) ?_
            refine lv_if_ne (tgt := 57) hx hb dX6_moveAt_49 (by decide) (fun c_49 => ?_) (fun c_49 => ?_)
            · skip
              refine lv_iload_n hx hb dX6_moveAt_57 rfl (lv_at hl 1 rfl) ?_
              refine lv_istore_n (lv' := [(3, .int fv), (4, .int (nI i)), (2, .int lv), (0, .ref bx), (1, .int idx)]) hx hb dX6_moveAt_58 rfl hl (by decide) rfl (fun ls hl => ?_)
              refine lv_iinc (v := lv + (-1)) (lv' := [(2, .int (lv + (-1))), (3, .int fv), (4, .int (nI i)), (0, .ref bx), (1, .int idx)]) hx hb dX6_moveAt_59 hl (k := 2) rfl rfl (by decide) rfl (fun ls hl => ?_)
              refine lv_iinc (v := nI (i + 1)) (lv' := [(4, .int (nI (i + 1))), (2, .int (lv + (-1))), (3, .int fv), (0, .ref bx), (1, .int idx)]) hx hb dX6_moveAt_62 hl (k := 2) rfl (nI_1 i) (by decide) rfl (fun ls hl => ?_)
              refine lv_goto (tgt := 12) hx hb dX6_moveAt_65 (by decide) ?_
              exact ih12 (i + 1) _ _ (by omega) (by rw [zNum_s, if_pos c_45, ← nI_1, hlv]; exact zi_ring5 _ _) (by rw [zMF_s, if_neg (fun h => c_49 (hlv.trans ((zi_sub0 _ _).mpr h.2)))]; exact hfv) (fun h => absurd h c_24) (by omega) _ _ hP hS _ (lv_sub hl [0, 2, 1, 3, 4] rfl)
            · skip
              refine lv_iload hx hb dX6_moveAt_52 (lv_at hl 0 rfl) ?_
              refine lv_goto (tgt := 58) hx hb dX6_moveAt_54 (by decide) ?_
              refine lv_istore_n (lv' := [(3, .int (nI i)), (4, .int (nI i)), (2, .int lv), (0, .ref bx), (1, .int idx)]) hx hb dX6_moveAt_58 rfl hl (by decide) rfl (fun ls hl => ?_)
              refine lv_iinc (v := lv + (-1)) (lv' := [(2, .int (lv + (-1))), (3, .int (nI i)), (4, .int (nI i)), (0, .ref bx), (1, .int idx)]) hx hb dX6_moveAt_59 hl (k := 2) rfl rfl (by decide) rfl (fun ls hl => ?_)
              refine lv_iinc (v := nI (i + 1)) (lv' := [(4, .int (nI (i + 1))), (2, .int (lv + (-1))), (3, .int (nI i)), (0, .ref bx), (1, .int idx)]) hx hb dX6_moveAt_62 hl (k := 2) rfl (nI_1 i) (by decide) rfl (fun ls hl => ?_)
              refine lv_goto (tgt := 12) hx hb dX6_moveAt_65 (by decide) ?_
              exact ih12 (i + 1) _ _ (by omega) (by rw [zNum_s, if_pos c_45, ← nI_1, hlv]; exact zi_ring5 _ _) (by rw [zMF_s, if_pos ⟨c_45, (zi_sub0 _ _).mp (hlv.symm.trans c_49)⟩]) (fun h => absurd h c_24) (by omega) _ _ hP hS _ (lv_sub hl [0, 2, 1, 3, 4] rfl)
  exact lp 16 0 idx (-1) (by omega) (by show idx = idx - nI 0; rw [nI_0]; grind) rfl (fun _ => rfl) (by omega) _ _ hP hS _ (lv_sub hl [0, 1, 2, 3, 4] rfl)

set_option maxHeartbeats 4000000 in
set_option maxRecDepth 100000 in
theorem c_X6_captures (l : Launch) (dC : Nat → ClassId) (dI : Nat → Nat → Nat) (cyI cyJ : ClassId) (k : Nat) (bx bl ba bt bg be bf bw bs bm bn bb bu bh : Nat) (thr tI wI cI : Int32) (Af : Nat → Int32) (sd own oth mm : Nat) (hsd : sd ≤ 1) (hrow : zRow Af 0 sd own oth) (hmk : zmk tI mm) (hmm : mm ≤ 4) (v : Int32) (hnd : [bx, ba].Nodup) : Met l yX6_captures wsX6_captures ({ frames := 2, cells := 0, slots := 0, locals := 42 }) (zPc [.ref bx, .int v] (dC, dI) vwCl [(cyI, .int), (cyJ, .long)] [(bx, .inr (3, [.int thr, .int (nI k), .int (nI sd), .int tI, .int wI, .int cI, .ref bl, .ref ba, .ref bt, .ref bg, .ref be, .ref bf, .ref bw, .ref bs, .ref bm, .ref bn, .ref bb, .ref bu, .ref bh])), (ba, .inl (cyI, 32, .inl Af))] (fun _ => True)) (va_Qi (fun (r : Int32) (u : Int32) => (u = 0 ∧ ∃ fr, fr ≤ 14 ∧ v = nI fr ∧ r = bI (zcm own oth fr mm && ztk oth (fr + mm))) ∨ (u = 1 ∧ ¬ (0 ≤ v ∧ v ≤ 14))) (fun (u : Int32) t => va_P (dC, dI) vwCl ([(bx, .inr (3, [.int u, .int (nI k), .int (nI sd), .int tI, .int wI, .int cI, .ref bl, .ref ba, .ref bt, .ref bg, .ref be, .ref bf, .ref bw, .ref bs, .ref bm, .ref bn, .ref bb, .ref bu, .ref bh])), (ba, .inl (cyI, 32, .inl Af))]) t.heap) (zA [bx, ba])) 0 0 (zA [bx, ba]) := by
  refine Met.ofW (cc := cX6_captures) (maxL := 2) (ret := (some .boolean)) (by decide) rfl ?_
  intro p e s m args below meth c s₁ B hml hv
  obtain ⟨rfl, hP, hK, hX⟩ := hv
  have hx := B.exec
  have hb := B.bytes
  have hr := B.returns
  have hts := atoms_spec (ws := wsX6_captures) B.pre
  have hown : s.vm.findClass RX6 = some m.cls := findClass_of_methodNamed B.named
  have hlocks := B.notSynchronized
  have hinX6 : ∀ w ∈ wsX60, w ∈ wsX6_captures := by decide +kernel
  have hl := lv_entry ([.ref bx, .int v]) (n := 2) (Nat.le_of_ble_eq_true rfl)
  rw [lg_entry_eq]
  generalize (lg_sl ([.ref bx, .int v]) ++ List.replicate (2 - (lg_sl ([.ref bx, .int v])).length) Slot.unset).toArray = ls at hl ⊢
  have hl : lv_has ls 2 [(0, .ref bx), (1, .int v)] := hl
  have hS : va_S (zA [bx, ba]) s.heap s.heap [] := va_S.rf
  have hDD : zD (zA [bx, ba]) [bx, ba] := ⟨hnd, fun _ h => h⟩
  refine lv_aload_n hx hb dX6_captures_0 rfl (lv_at hl 0 rfl) ?_
  refine lv_iload_n hx hb dX6_captures_1 rfl (lv_at hl 1 rfl) ?_
  refine lv_iconst (v := 0) hx hb dX6_captures_2 (by decide) ?_
  refine lv_bipush (v := 14) hx hb dX6_captures_3 (by decide) ?_
  refine zro_i (va_runS (As := [.int v, .int 0, .int 14]) (rest := [.ref bx]) ⟨hx, hb, hml, hown, hts⟩ (c_X6_in l v 0 14) (va_cwS 3 hts gX6_captures_X6_in rfl rfl rfl (by decide +kernel) ⟨Nat.le_of_ble_eq_true rfl, Nat.le_of_ble_eq_true rfl⟩) zPu rfl rfl hl.1 rfl (lv_room (Nat.le_of_ble_eq_true rfl)) dX6_captures_5 ⟨Nat.zero_le _, Nat.zero_le _⟩) hP hS (fun H locs hP hS => ?_)
  refine lv_if_eq (tgt := 15) hx hb dX6_captures_8 (by decide) (fun c_8 => ?_) (fun c_8 => ?_)
  · skip
    have c_8 := bI_0.mp c_8
    refine lv_iconst (v := 1) hx hb dX6_captures_15 (by decide) ?_
    refine va_put (D := (dC, dI)) (ci := 3) (v := .int 1) (ty := .int) (C := RX6) (T := TX6) (N := 19) hx hb hts hinX6 tyX6 tyX6_ok nmX6 hown hK hP (hDD.va rfl) hS 0 rfl rfl 0 (by decide) (hts (.fieldLink RX6 64 "RoyalUrTableModel" "thrown" "I") (List.mem_of_getElem? (i := 1) rfl)) (fun _ h9 => h9) rfl (by decide +kernel) rfl rfl (Nat.le_of_ble_eq_true rfl) dX6_captures_16 (fun H locs hP hD9 hS => ?_)
    have hP : va_P (dC, dI) vwCl [(bx, .inr (3, [.int 1, .int (nI k), .int (nI sd), .int tI, .int wI, .int cI, .ref bl, .ref ba, .ref bt, .ref bg, .ref be, .ref bf, .ref bw, .ref bs, .ref bm, .ref bn, .ref bb, .ref bu, .ref bh])), (ba, .inl (cyI, 32, .inl Af))] H := hP
    refine lv_aload_n hx hb dX6_captures_19 rfl (lv_at hl 0 rfl) ?_
    refine va_get (D := (dC, dI)) (ci := 3) (v := .int 1) (C := RX6) (T := TX6) (N := 19) hx hb hts hinX6 hown hK hP 0 rfl rfl 0 (by decide) (hts (.fieldLink RX6 64 "RoyalUrTableModel" "thrown" "I") (List.mem_of_getElem? (i := 1) rfl)) (fun _ h9 => h9) rfl dX6_captures_20 ?_
    refine lv_if_ne (tgt := 95) hx hb dX6_captures_23 (by decide) (fun _ => ?_) (fun c9 => absurd c9 (by decide))
    refine lv_iconst (v := 0) hx hb dX6_captures_95 (by decide) ?_
    exact W.zret (v := 0) hx hb hr rfl (fun t ht hW => ⟨⟨_, 1, rfl, Or.inr ⟨rfl, zin_bf (n := 14) (by decide) c_8⟩, zh ht hP⟩, hS.F ht⟩) hS.2.2 dX6_captures_96
  · skip
    have c_8 := bI_1.mp c_8
    obtain ⟨fr, hfr, rfl⟩ := zin_b (n := 14) (by decide) c_8
    refine lv_iconst (v := 0) hx hb dX6_captures_11 (by decide) ?_
    refine lv_goto (tgt := 16) hx hb dX6_captures_12 (by decide) ?_
    refine va_put (D := (dC, dI)) (ci := 3) (v := .int 0) (ty := .int) (C := RX6) (T := TX6) (N := 19) hx hb hts hinX6 tyX6 tyX6_ok nmX6 hown hK hP (hDD.va rfl) hS 0 rfl rfl 0 (by decide) (hts (.fieldLink RX6 64 "RoyalUrTableModel" "thrown" "I") (List.mem_of_getElem? (i := 1) rfl)) (fun _ h9 => h9) rfl (by decide +kernel) rfl rfl (Nat.le_of_ble_eq_true rfl) dX6_captures_16 (fun H locs hP hD9 hS => ?_)
    have hP : va_P (dC, dI) vwCl [(bx, .inr (3, [.int 0, .int (nI k), .int (nI sd), .int tI, .int wI, .int cI, .ref bl, .ref ba, .ref bt, .ref bg, .ref be, .ref bf, .ref bw, .ref bs, .ref bm, .ref bn, .ref bb, .ref bu, .ref bh])), (ba, .inl (cyI, 32, .inl Af))] H := hP
    refine lv_aload_n hx hb dX6_captures_19 rfl (lv_at hl 0 rfl) ?_
    refine va_get (D := (dC, dI)) (ci := 3) (v := .int 0) (C := RX6) (T := TX6) (N := 19) hx hb hts hinX6 hown hK hP 0 rfl rfl 0 (by decide) (hts (.fieldLink RX6 64 "RoyalUrTableModel" "thrown" "I") (List.mem_of_getElem? (i := 1) rfl)) (fun _ h9 => h9) rfl dX6_captures_20 ?_
    refine lv_if_ne (tgt := 95) hx hb dX6_captures_23 (by decide) (fun c9 => absurd c9 (by decide)) (fun _ => ?_)
    refine lv_aload_n hx hb dX6_captures_26 rfl (lv_at hl 0 rfl) ?_
    refine va_get (D := (dC, dI)) (ci := 3) (v := .int tI) (C := RX6) (T := TX6) (N := 19) hx hb hts hinX6 hown hK hP 0 rfl rfl 3 (by decide) (hts (.fieldLink RX6 9 "RoyalUrTableModel" "told" "I") (List.mem_of_getElem? (i := 2) rfl)) (fun _ h9 => h9) rfl dX6_captures_27 ?_
    refine lv_iconst (v := -1) hx hb dX6_captures_30 (by decide) ?_
    refine lv_icmp_eq (tgt := 95) hx hb dX6_captures_31 (by decide) (fun c_31 => ?_) (fun c_31 => ?_)
    · skip
      refine lv_iconst (v := 0) hx hb dX6_captures_95 (by decide) ?_
      exact W.zret (v := 0) hx hb hr rfl (fun t ht hW => ⟨⟨_, 0, rfl, Or.inl ⟨rfl, fr, hfr, rfl, bI_f (by rw [zmk_0 hmk hmm c_31, zcm_0]; rfl)⟩, zh ht hP⟩, hS.F ht⟩) hS.2.2 dX6_captures_96
    · skip
      refine lv_aload_n hx hb dX6_captures_34 rfl (lv_at hl 0 rfl) ?_
      refine va_get (D := (dC, dI)) (ci := 3) (v := .ref ba) (C := RX6) (T := TX6) (N := 19) hx hb hts hinX6 hown hK hP 0 rfl rfl 7 (by decide) (hts (.fieldLink RX6 20 "RoyalUrTableModel" "at" "[I") (List.mem_of_getElem? (i := 3) rfl)) (fun _ h9 => h9) rfl dX6_captures_35 ?_
      refine lv_iconst (v := 0) hx hb dX6_captures_38 (by decide) ?_
      refine lv_aload_n hx hb dX6_captures_39 rfl (lv_at hl 0 rfl) ?_
      refine va_get (D := (dC, dI)) (ci := 3) (v := .int (nI sd)) (C := RX6) (T := TX6) (N := 19) hx hb hts hinX6 hown hK hP 0 rfl rfl 2 (by decide) (hts (.fieldLink RX6 128 "RoyalUrTableModel" "side" "I") (List.mem_of_getElem? (i := 4) rfl)) (fun _ h9 => h9) rfl dX6_captures_40 ?_
      refine lv_iload_n hx hb dX6_captures_43 rfl (lv_at hl 1 rfl) ?_
      refine lv_aload_n hx hb dX6_captures_44 rfl (lv_at hl 0 rfl) ?_
      refine va_get (D := (dC, dI)) (ci := 3) (v := .int tI) (C := RX6) (T := TX6) (N := 19) hx hb hts hinX6 hown hK hP 0 rfl rfl 3 (by decide) (hts (.fieldLink RX6 9 "RoyalUrTableModel" "told" "I") (List.mem_of_getElem? (i := 2) rfl)) (fun _ h9 => h9) rfl dX6_captures_45 ?_
      refine zz_i (y := nI mm) (zmk_ne hmk c_31) ?_
      refine zro_i (va_runS (As := [.ref ba, .int 0, .int (nI sd), .int (nI fr), .int (nI mm)]) (rest := []) ⟨hx, hb, hml, hown, hts⟩ (c_X6_canMove l dC dI cyI cyJ ba 32 (by omega) Af 0 sd own oth fr mm (by omega) hsd hrow (by omega) hmm) (va_cwS 5 hts gX6_captures_X6_canMove rfl rfl rfl (by decide +kernel) ⟨Nat.le_of_ble_eq_true rfl, Nat.le_of_ble_eq_true rfl⟩) (zPc_S zB_T hP hK [1] rfl (fun _ _ _ => trivial)) rfl rfl hl.1 rfl (lv_room (Nat.le_of_ble_eq_true rfl)) dX6_captures_48 ⟨Nat.zero_le _, Nat.zero_le _⟩) hP hS (fun H locs hP hS => ?_)
      refine lv_if_eq (tgt := 95) hx hb dX6_captures_51 (by decide) (fun c_51 => ?_) (fun c_51 => ?_)
      · skip
        have c_51 := bI_0.mp c_51
        refine lv_iconst (v := 0) hx hb dX6_captures_95 (by decide) ?_
        exact W.zret (v := 0) hx hb hr rfl (fun t ht hW => ⟨⟨_, 0, rfl, Or.inl ⟨rfl, fr, hfr, rfl, bI_f (by rw [c_51]; rfl)⟩, zh ht hP⟩, hS.F ht⟩) hS.2.2 dX6_captures_96
      · skip
        have c_51 := bI_1.mp c_51
        refine lv_iload_n hx hb dX6_captures_54 rfl (lv_at hl 1 rfl) ?_
        refine lv_aload_n hx hb dX6_captures_55 rfl (lv_at hl 0 rfl) ?_
        refine va_get (D := (dC, dI)) (ci := 3) (v := .int tI) (C := RX6) (T := TX6) (N := 19) hx hb hts hinX6 hown hK hP 0 rfl rfl 3 (by decide) (hts (.fieldLink RX6 9 "RoyalUrTableModel" "told" "I") (List.mem_of_getElem? (i := 2) rfl)) (fun _ h9 => h9) rfl dX6_captures_56 ?_
        refine zz_i (y := nI mm) (zmk_ne hmk c_31) ?_
        refine lv_iadd hx hb dX6_captures_59 ?_
        refine zz_i (y := nI (fr + mm)) (nI_add fr mm) ?_
        refine zro_i (va_runS (As := [.int (nI (fr + mm))]) (rest := []) ⟨hx, hb, hml, hown, hts⟩ (c_X6_isShared l (fr + mm) (by omega)) (va_cwS 1 hts gX6_captures_X6_isShared rfl rfl rfl (by decide +kernel) ⟨Nat.le_of_ble_eq_true rfl, Nat.le_of_ble_eq_true rfl⟩) zPu rfl rfl hl.1 rfl (lv_room (Nat.le_of_ble_eq_true rfl)) dX6_captures_60 ⟨Nat.zero_le _, Nat.zero_le _⟩) hP hS (fun H locs hP hS => ?_)
        refine lv_if_eq (tgt := 95) hx hb dX6_captures_63 (by decide) (fun c_63 => ?_) (fun c_63 => ?_)
        · skip
          have c_63 := bI_0.mp c_63
          refine lv_iconst (v := 0) hx hb dX6_captures_95 (by decide) ?_
          exact W.zret (v := 0) hx hb hr rfl (fun t ht hW => ⟨⟨_, 0, rfl, Or.inl ⟨rfl, fr, hfr, rfl, bI_f (by rw [c_51, ztk_n1 c_63]; rfl)⟩, zh ht hP⟩, hS.F ht⟩) hS.2.2 dX6_captures_96
        · skip
          have c_63 := bI_1.mp c_63
          refine lv_aload_n hx hb dX6_captures_66 rfl (lv_at hl 0 rfl) ?_
          refine va_get (D := (dC, dI)) (ci := 3) (v := .ref ba) (C := RX6) (T := TX6) (N := 19) hx hb hts hinX6 hown hK hP 0 rfl rfl 7 (by decide) (hts (.fieldLink RX6 20 "RoyalUrTableModel" "at" "[I") (List.mem_of_getElem? (i := 3) rfl)) (fun _ h9 => h9) rfl dX6_captures_67 ?_
          refine lv_bipush (v := 16) hx hb dX6_captures_70 (by decide) ?_
          refine lv_bipush (v := 16) hx hb dX6_captures_72 (by decide) ?_
          refine lv_aload_n hx hb dX6_captures_74 rfl (lv_at hl 0 rfl) ?_
          refine va_get (D := (dC, dI)) (ci := 3) (v := .int (nI sd)) (C := RX6) (T := TX6) (N := 19) hx hb hts hinX6 hown hK hP 0 rfl rfl 2 (by decide) (hts (.fieldLink RX6 128 "RoyalUrTableModel" "side" "I") (List.mem_of_getElem? (i := 4) rfl)) (fun _ h9 => h9) rfl dX6_captures_75 ?_
          refine lv_imul hx hb dX6_captures_78 ?_
          refine zz_i (y := nI (16 * sd)) (pk_mul 16 sd) ?_
          refine lv_isub hx hb dX6_captures_79 ?_
          refine zz_i (y := nI (16 - (16 * sd))) (pk_sub (a := 16) (b := 16 * sd) (by omega)) ?_
          refine lv_iload_n hx hb dX6_captures_80 rfl (lv_at hl 1 rfl) ?_
          refine lv_iadd hx hb dX6_captures_81 ?_
          refine zz_i (y := nI (16 - (16 * sd) + fr)) (nI_add (16 - (16 * sd)) fr) ?_
          refine lv_aload_n hx hb dX6_captures_82 rfl (lv_at hl 0 rfl) ?_
          refine va_get (D := (dC, dI)) (ci := 3) (v := .int tI) (C := RX6) (T := TX6) (N := 19) hx hb hts hinX6 hown hK hP 0 rfl rfl 3 (by decide) (hts (.fieldLink RX6 9 "RoyalUrTableModel" "told" "I") (List.mem_of_getElem? (i := 2) rfl)) (fun _ h9 => h9) rfl dX6_captures_83 ?_
          refine zz_i (y := nI mm) (zmk_ne hmk c_31) ?_
          refine lv_iadd hx hb dX6_captures_86 ?_
          refine zz_i (y := nI (16 - (16 * sd) + fr + mm)) (nI_add (16 - (16 * sd) + fr) mm) ?_
          refine zi_iald hx hb hK hP 1 0 rfl rfl (j := 16 - (16 * sd) + fr + mm) rfl (by have := (zcm_spec c_51).2.2; omega) (by decide) dX6_captures_87 ?_
          have hg9 := dg_lt oth (fr + mm)
          refine zz_i (y := nI (dg oth (fr + mm))) (by rw [show 16 - 16 * sd + fr + mm = 0 + 16 * (1 - sd) + (fr + mm) by omega]; exact hrow.2 (fr + mm) (by have := (zcm_spec c_51).2.2; omega)) ?_
          refine lv_if_le (tgt := 95) hx hb dX6_captures_88 (by decide) (fun c_88 => ?_) (fun c_88 => ?_)
          · skip
            have c_88 : (dg oth (fr + mm)) ≤ 0 := (nI_leI (a := dg oth (fr + mm)) (b := 0) (by omega) (by omega)).mp c_88
            refine lv_iconst (v := 0) hx hb dX6_captures_95 (by decide) ?_
            exact W.zret (v := 0) hx hb hr rfl (fun t ht hW => ⟨⟨_, 0, rfl, Or.inl ⟨rfl, fr, hfr, rfl, bI_f (by rw [c_51, ztk_n2 c_88]; rfl)⟩, zh ht hP⟩, hS.F ht⟩) hS.2.2 dX6_captures_96
          · skip
            have c_88 : ¬ (dg oth (fr + mm)) ≤ 0 := fun h9 => c_88 ((nI_leI (a := dg oth (fr + mm)) (b := 0) (by omega) (by omega)).mpr h9)
            refine lv_iconst (v := 1) hx hb dX6_captures_91 (by decide) ?_
            refine lv_goto (tgt := 96) hx hb dX6_captures_92 (by decide) ?_
            exact W.zret (v := 1) hx hb hr rfl (fun t ht hW => ⟨⟨_, 0, rfl, Or.inl ⟨rfl, fr, hfr, rfl, bI_t (by rw [c_51, ztk_y c_63 c_88]; rfl)⟩, zh ht hP⟩, hS.F ht⟩) hS.2.2 dX6_captures_96

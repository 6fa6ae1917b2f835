/-! the marks' table of the class, and what a throw looks at: statics that stay -/
def ztv : Nat → Value := fun j => .int (nI (ztm j))
def zX (t : Nat) (A : Nat → Prop) (U : State) (H : Heap) : Prop := va_Z "RoyalUrTable$Dice" "TIMES_IN_16" "[I" (.ref t) A U H ∧ va_T .int t 5 ztv A U H
theorem zX.moved {t : Nat} {A : Nat → Prop} {u U : State} {H : Heap} (hvm : u.vm.Alike U.vm) (h : zX t A u H) : zX t A U H := ⟨va_Z.moved hvm h.1, va_T.moved hvm h.2⟩
theorem zX.kept {t : Nat} {A : Nat → Prop} {U : State} {H H1 : Heap} (h : zX t A U H) (hq : ∀ a : Nat, a < H.size → ¬ A a → H1[a]? = H[a]?) : zX t A U H1 := ⟨va_Z.kept h.1 hq, va_T.kept h.2 hq⟩
theorem zX.narrow {t : Nat} {A B : Nat → Prop} {U : State} {H : Heap} (h : zX t A U H) (hAB : ∀ q, B q → A q) : zX t B U H := ⟨va_Z.narrow h.1 hAB, va_T.narrow h.2 hAB⟩
abbrev zIA : String := "java/lang/IllegalArgumentException"
abbrev zIS : String := "java/lang/IllegalStateException"
theorem zNwD {x : MethodName} {u U : State} (hvm : u.vm.Alike U.vm) (h : va_Nw (.declares x) u) : va_Nw (.declares x) U := va_tabs rfl (rfl : (u.setVm U.vm).vm = U.vm) (by rw [Cond.declares_setVm hvm]; exact h)
theorem zNwC {C T : String} {u U : State} (hvm : u.vm.Alike U.vm) (h : va_Nw (.castable C T) u) : va_Nw (.castable C T) U := va_tabs rfl (rfl : (u.setVm U.vm).vm = U.vm) (by rw [Cond.castable_setVm hvm]; exact h)
/-- what the tables say of the two kinds of throw -/
def zN (U : State) : Prop := va_Nw (.declares (Bundle.init0 "java/lang/RuntimeException")) U ∧ va_Nw (.declares (Bundle.init0 "java/lang/Exception")) U ∧ va_Nw (.declares (Bundle.init0 Bundle.tN)) U ∧ va_Nw (.castable zIA zIA) U ∧ va_Nw (.castable zIS zIS) U
theorem zN.moved {u U : State} (hvm : u.vm.Alike U.vm) (h : zN u) : zN U := ⟨zNwD hvm h.1, zNwD hvm h.2.1, zNwD hvm h.2.2.1, zNwC hvm h.2.2.2.1, zNwC hvm h.2.2.2.2⟩
def zY (A : Nat → Prop) (U : State) (H : Heap) : Prop := vx_Zq Bundle.tN "UNASSIGNED_STACK" Bundle.steD A U H ∧ vx_Zq Bundle.tN "SUPPRESSED_SENTINEL" Bundle.listD A U H ∧ zN U
theorem zY.moved {A : Nat → Prop} {u U : State} {H : Heap} (hvm : u.vm.Alike U.vm) (h : zY A u H) : zY A U H := ⟨vx_Zq.moved hvm h.1, vx_Zq.moved hvm h.2.1, h.2.2.moved hvm⟩
theorem zY.kept {A : Nat → Prop} {U : State} {H H1 : Heap} (h : zY A U H) (hq : ∀ a : Nat, a < H.size → ¬ A a → H1[a]? = H[a]?) : zY A U H1 := ⟨vx_Zq.kept h.1 hq, vx_Zq.kept h.2.1 hq, h.2.2⟩
theorem zY.narrow {A B : Nat → Prop} {U : State} {H : Heap} (h : zY A U H) (hAB : ∀ q, B q → A q) : zY B U H := ⟨vx_Zq.narrow h.1 hAB, vx_Zq.narrow h.2.1 hAB, h.2.2⟩
def zG (t : Nat) (A : Nat → Prop) (U : State) (H : Heap) : Prop := zX t A U H ∧ zY A U H
theorem zG.moved {t : Nat} {A : Nat → Prop} {u U : State} {H : Heap} (hvm : u.vm.Alike U.vm) (h : zG t A u H) : zG t A U H := ⟨h.1.moved hvm, h.2.moved hvm⟩
theorem zG.kept {t : Nat} {A : Nat → Prop} {U : State} {H H1 : Heap} (h : zG t A U H) (hq : ∀ a : Nat, a < H.size → ¬ A a → H1[a]? = H[a]?) : zG t A U H1 := ⟨h.1.kept hq, h.2.kept hq⟩
theorem zG.narrow {t : Nat} {A B : Nat → Prop} {U : State} {H : Heap} (h : zG t A U H) (hAB : ∀ q, B q → A q) : zG t B U H := ⟨h.1.narrow hAB, h.2.narrow hAB⟩
theorem zB_X {t : Nat} {A : Nat → Prop} : zB (fun U => zX t A U U.heap) := fun U V hv hh h => by show _; simp only [hh]; exact h.moved hv
theorem zB_Y {A : Nat → Prop} : zB (fun U => zY A U U.heap) := fun U V hv hh h => by show _; simp only [hh]; exact h.moved hv
theorem zB_G {t : Nat} {A : Nat → Prop} : zB (fun U => zG t A U U.heap) := fun U V hv hh h => by show _; simp only [hh]; exact h.moved hv
/-- .. at a call -/
theorem zX_at {t : Nat} {A B : Nat → Prop} {s : State} {H : Heap} {locs : List Loc} (h : zX t A s s.heap) (hS : va_S A s.heap H locs) (hAB : ∀ q, B q → A q) : ∀ U : State, U.heap = H → s.vm.Alike U.vm → zX t B U U.heap := fun U hU hv => by rw [hU]; exact ((h.kept hS.2.1).moved hv).narrow hAB
theorem zY_at {A B : Nat → Prop} {s : State} {H : Heap} {locs : List Loc} (h : zY A s s.heap) (hS : va_S A s.heap H locs) (hAB : ∀ q, B q → A q) : ∀ U : State, U.heap = H → s.vm.Alike U.vm → zY B U U.heap := fun U hU hv => by rw [hU]; exact ((h.kept hS.2.1).moved hv).narrow hAB
theorem zG_at {t : Nat} {A B : Nat → Prop} {s : State} {H : Heap} {locs : List Loc} (h : zG t A s s.heap) (hS : va_S A s.heap H locs) (hAB : ∀ q, B q → A q) : ∀ U : State, U.heap = H → s.vm.Alike U.vm → zG t B U U.heap := fun U hU hv => by rw [hU]; exact ((h.kept hS.2.1).moved hv).narrow hAB
theorem zF_A {A : Nat → Prop} : ∀ q, zF q → A q := fun _ h => h.elim
/-- a start of a method on numbers and such statics -/
theorem zPx {s : State} {H : Heap} {As : List Value} {X : State → Prop} (hX : zB X) (hXs : ∀ U : State, U.heap = H → s.vm.Alike U.vm → X U) : PreS s H (va_Pc As X) As :=
  ⟨fun a U g mk q => ⟨q.1, hX U (U.calling g mk a) (Vm.Alike.refl U.vm) rfl q.2⟩, fun U hU hW => ⟨rfl, hXs U hU hW.alike⟩⟩
set_option maxHeartbeats 4000000 in
set_option maxRecDepth 100000 in
theorem c_X0_timesIn16 (l : Launch) (tb mm : Nat) (hmm : mm ≤ 4) : Met l yX0_timesIn16 wsX0_timesIn16 ({ frames := 0, cells := 0, slots := 0, locals := 0 }) (va_Pc [.int (nI mm)] (fun U => zX tb zF U U.heap)) (va_Qi (fun (r : Int32) (_ : Unit) => r = nI (ztm mm)) (fun _ _ => True) zF) 0 0 zF := by
  refine Met.ofW (cc := cX0_timesIn16) (maxL := 1) (ret := (some .int)) (by decide) rfl ?_
  intro p e s m args below meth c s₁ B hml hv
  obtain ⟨rfl, hX⟩ := hv
  have hx := B.exec
  have hb := B.bytes
  have hr := B.returns
  have hts := atoms_spec (ws := wsX0_timesIn16) B.pre
  have hown : s.vm.findClass RX0 = some m.cls := findClass_of_methodNamed B.named
  have hlocks := B.notSynchronized
  have hl := lv_entry ([.int (nI mm)]) (n := 1) (Nat.le_of_ble_eq_true rfl)
  rw [lg_entry_eq]
  generalize (lg_sl ([.int (nI mm)]) ++ List.replicate (1 - (lg_sl ([.int (nI mm)])).length) Slot.unset).toArray = ls at hl ⊢
  have hl : lv_has ls 1 [(0, .int (nI mm))] := hl
  have hS : va_S zF s.heap s.heap [] := va_S.rf
  refine lv_iload_n hx hb dX0_timesIn16_0 rfl (lv_at hl 0 rfl) ?_
  refine lv_if_lt (tgt := 12) hx hb dX0_timesIn16_1 (by decide) (fun c_1 => absurd ((nI_ltI (a := mm) (b := 0) (by omega) (by omega)).mp c_1) (Nat.not_lt_zero _)) (fun _ => ?_)
  refine lv_iload_n hx hb dX0_timesIn16_4 rfl (lv_at hl 0 rfl) ?_
  refine va_gets (A := zF) hx hb hX.1 hS hown (hts (.fieldLink RX0 7 "RoyalUrTable$Dice" "TIMES_IN_16" "[I") (List.mem_of_getElem? (i := 1) rfl)) (fun _ h9 => h9) dX0_timesIn16_5 ?_
  refine va_tlen (v := 5) hx hb hX.2 hS rfl dX0_timesIn16_8 ?_
  refine lv_icmp_lt (tgt := 16) hx hb dX0_timesIn16_9 (by decide) (fun _ => ?_) (fun c_9 => absurd ((nI_ltI (a := mm) (b := 5) (by omega) (by omega)).mpr (by omega)) c_9)
  refine va_gets (A := zF) hx hb hX.1 hS hown (hts (.fieldLink RX0 7 "RoyalUrTable$Dice" "TIMES_IN_16" "[I") (List.mem_of_getElem? (i := 1) rfl)) (fun _ h9 => h9) dX0_timesIn16_16 ?_
  refine lv_iload_n hx hb dX0_timesIn16_19 rfl (lv_at hl 0 rfl) ?_
  refine va_ti (v := .int (nI (ztm mm))) hx hb hX.2 hS (vp_in_nI (n := mm) (by omega) (by decide)) (by rw [nI_clamp (by omega)]; rfl) dX0_timesIn16_20 ?_
  exact W.iret (v := nI (ztm mm)) hx hb hr (fun t ht hW => ⟨⟨_, (), rfl, rfl, trivial⟩, hS.F ht⟩) hS.2.2 dX0_timesIn16_21

set_option maxHeartbeats 4000000 in
set_option maxRecDepth 100000 in
theorem c_X5_refuseOutside (l : Launch) (hl0 : l.stackTraces = false) (v lo hi : Int32) : vx_Met l yX5_refuseOutside wsX5_refuseOutside ({ frames := 6, cells := 1, slots := 6, locals := 90 }) (va_Pc [.int v, .int lo, .int hi] (fun U => zY zF U U.heap)) (va_Qv (fun (_ : Unit) => lo ≤ v ∧ v ≤ hi) (fun _ _ => True) zF) (vx_X (fun (_ : Unit) => ¬ (lo ≤ v ∧ v ≤ hi)) (fun E _ _ => E = "java/lang/IllegalArgumentException") zF) 1 6 zF := by
  refine vx_ofW (cc := cX5_refuseOutside) (maxL := 3) (ret := none) (by decide) rfl ?_
  intro p e s m args below meth c s₁ B hml hnt hv
  obtain ⟨rfl, hY⟩ := hv
  have hx := B.exec
  have hb := B.bytes
  have hr := B.returns
  have hts := atoms_spec (ws := wsX5_refuseOutside) B.pre
  have hown : s.vm.findClass RX5 = some m.cls := findClass_of_methodNamed B.named
  have hlocks := B.notSynchronized
  have hl := lv_entry ([.int v, .int lo, .int hi]) (n := 3) (Nat.le_of_ble_eq_true rfl)
  rw [lg_entry_eq]
  generalize (lg_sl ([.int v, .int lo, .int hi]) ++ List.replicate (3 - (lg_sl ([.int v, .int lo, .int hi])).length) Slot.unset).toArray = ls at hl ⊢
  have hl : lv_has ls 3 [(0, .int v), (1, .int lo), (2, .int hi)] := hl
  have hS : va_S zF s.heap s.heap [] := va_S.rf
  have hl9 := hl.1.trans hml.symm
  refine lv_iload_n hx hb dX5_refuseOutside_0 rfl (lv_at hl 0 rfl) ?_
  refine lv_iload_n hx hb dX5_refuseOutside_1 rfl (lv_at hl 1 rfl) ?_
  refine lv_icmp_lt (tgt := 10) hx hb dX5_refuseOutside_2 (by decide) (fun c_2 => ?_) (fun c_2 => ?_)
  · refine vx_throw0 (cls := "java/lang/IllegalArgumentException") (names := ["java/lang/RuntimeException", "java/lang/Exception"]) (ik := 108) (ic := 110) (A := zF) hx hb hl0 hown (by decide +kernel) (by decide +kernel) (hts (.classLink RX5 108 "java/lang/IllegalArgumentException") (List.mem_of_getElem? (i := 1) rfl)) (hts (.initialized "java/lang/IllegalArgumentException") (List.mem_of_getElem? (i := 2) rfl)) (vx_hat (fun w h => hts w (List.mem_cons_of_mem _ (List.mem_append_right _ h))) (by decide +kernel) (vx_c (va_Nw.use rfl hY.2.2.1) (vx_c (va_Nw.use rfl hY.2.2.2.1) (vx_c (va_Nw.use rfl hY.2.2.2.2.1) (vx_c (va_Nw.use rfl hY.2.2.2.2.2.1) vx_n))))) (by decide +kernel) hY.1 hY.2.1 hS hl9 dX5_refuseOutside_10 dX5_refuseOutside_13 dX5_refuseOutside_14 dX5_refuseOutside_17 (fun x hx9 => (hnt x hx9).elim) (Nat.le_of_ble_eq_true rfl) (Nat.le_of_ble_eq_true rfl) (Nat.le_of_ble_eq_true rfl) (Nat.le_of_ble_eq_true rfl) hlocks (fun t hv hz hk => ⟨(), (fun h => absurd c_2 (Int32.not_lt.mpr h.1)), rfl, hz, fun q hq _ => hk q hq⟩) (fun z hz => by cases hz) (Nat.le_refl _) (Nat.le_refl _)
  · refine lv_iload_n hx hb dX5_refuseOutside_5 rfl (lv_at hl 0 rfl) ?_
    refine lv_iload_n hx hb dX5_refuseOutside_6 rfl (lv_at hl 2 rfl) ?_
    refine lv_icmp_le (tgt := 18) hx hb dX5_refuseOutside_7 (by decide) (fun c_7 => ?_) (fun c_7 => ?_)
    · refine vx_ret (mc := 1) (ms := 6) ?_
      refine W.widen (k := 1) (n := 6) (Nat.le_of_ble_eq_true rfl) (Nat.le_of_ble_eq_true rfl) ?_
      exact W.vret hx hb hr (fun t ht hW => ⟨⟨(), rfl, ⟨Int32.not_lt.mp c_2, c_7⟩, trivial⟩, hS.F ht⟩) hS.2.2 dX5_refuseOutside_18
    · refine vx_throw0 (cls := "java/lang/IllegalArgumentException") (names := ["java/lang/RuntimeException", "java/lang/Exception"]) (ik := 108) (ic := 110) (A := zF) hx hb hl0 hown (by decide +kernel) (by decide +kernel) (hts (.classLink RX5 108 "java/lang/IllegalArgumentException") (List.mem_of_getElem? (i := 1) rfl)) (hts (.initialized "java/lang/IllegalArgumentException") (List.mem_of_getElem? (i := 2) rfl)) (vx_hat (fun w h => hts w (List.mem_cons_of_mem _ (List.mem_append_right _ h))) (by decide +kernel) (vx_c (va_Nw.use rfl hY.2.2.1) (vx_c (va_Nw.use rfl hY.2.2.2.1) (vx_c (va_Nw.use rfl hY.2.2.2.2.1) (vx_c (va_Nw.use rfl hY.2.2.2.2.2.1) vx_n))))) (by decide +kernel) hY.1 hY.2.1 hS hl9 dX5_refuseOutside_10 dX5_refuseOutside_13 dX5_refuseOutside_14 dX5_refuseOutside_17 (fun x hx9 => (hnt x hx9).elim) (Nat.le_of_ble_eq_true rfl) (Nat.le_of_ble_eq_true rfl) (Nat.le_of_ble_eq_true rfl) (Nat.le_of_ble_eq_true rfl) hlocks (fun t hv hz hk => ⟨(), (fun h => absurd h.2 c_7), rfl, hz, fun q hq _ => hk q hq⟩) (fun z hz => by cases hz) (Nat.le_refl _) (Nat.le_refl _)

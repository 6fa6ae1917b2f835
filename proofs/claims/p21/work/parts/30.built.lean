/-! what is built: the constructors -/
section ZN
variable {p : Program} {l : Launch} {e : Env} {R : Room} {s : State} {m : MethodId} {args : Array Value} {below : List Frame} {meth : Method} {c : Code} {H : Heap} {locs : List Loc} {cells slots : Nat} {Q : State → Prop}
variable {cc : ByteArray} {pc : Nat} {ls : Array Slot} {rest st0 : List Value} {D : va_G} {cl : List vw_C} {A A0 : Nat → Prop} {a : Nat} {tys : List (ClassId × FieldType)} {ws : va_W} {H0 : Heap} {av : Array Value}
theorem zi_newa (hexec : p.tables.exec = Jvm.exec) (hb : c.code = cc) {atype : ArrayType} (harr : (Cond.arrayClass (newarray.typeOf atype)).before args s = true) {ty : FieldType} (hty : newarray.typeOf atype = ty) (hK : va_K D cl tys s) (t0 : Nat) {cA : ClassId} (ht : tys[t0]? = some (cA, ty)) (hra : ∀ x : ClassId, va_RA s x ty → s.vm.findClass ("[" ++ ty.toString) = some x) (hP : va_P D cl ws H) (hD : va_D A ws) (hS : va_S A H0 H locs) (hA : ∀ q, H0.size ≤ q → A q)
    {n : Int32} {N' : Nat} {a0 : vp_A} (ha : ∀ cA : ClassId, vp_cell cA a0 = arrV cA N' (fun _ => defaultValue ty)) (hn : ¬ n < 0) (hN : n.toNatClampNeg = N') (hbytes : N' * componentBytes ty ≤ 536870912) (hcells : cells + 1 ≤ R.cells) (hslots : slots + N' ≤ R.slots) (hdg : decode cc pc = .ok (.newarray atype, 2))
    (kk : ∀ (q : Nat) (H1 : Heap), va_P D cl (ws ++ [(q, .inl (cA, a0))]) H1 → va_D A (ws ++ [(q, .inl (cA, a0))]) → va_S A H0 H1 locs →
      W p l e R s m args below meth c H1 locs (cells + 1) (slots + N') Q (F0 m (pc + 2) ls (.ref q :: rest))) : W p l e R s m args below meth c H locs cells slots Q (F0 m pc ls (.int n :: rest)) := by
  refine va_newa hexec hb harr hty hK hP hD hS hA ha hn hN hbytes hcells hslots hdg (fun q cB H1 hK1 hP1 hD1 hS1 => ?_)
  have e1 := hra cB (hK1.2 tys.length (cB, ty) (by simp)).2
  have e2 := hra cA (hK.2 t0 (cA, ty) ht).2
  cases Option.some.inj (e1.symm.trans e2)
  exact kk q H1 hP1 hD1 hS1
end ZN
set_option maxHeartbeats 4000000 in
set_option maxRecDepth 100000 in
theorem c_X3_init (l : Launch) (ae : Nat) : Met l yX3_init wsX3_init ({ frames := 1, cells := 0, slots := 0, locals := 16 }) (va_Pc [.ref ae] (fun _ => True)) (va_Qv (fun (_ : Unit) => True) (fun _ _ => True) zF) 0 0 zF := by
  refine Met.ofW (cc := cX3_init) (maxL := 1) (ret := none) (by decide) rfl ?_
  intro p e s m args below meth c s₁ B hml hv
  obtain ⟨rfl, -⟩ := hv
  have hx := B.exec
  have hb := B.bytes
  have hr := B.returns
  have hts := atoms_spec (ws := wsX3_init) B.pre
  have hown : s.vm.findClass RX3 = some m.cls := findClass_of_methodNamed B.named
  have hlocks := B.notSynchronized
  have hl := lv_entry ([.ref ae]) (n := 1) (Nat.le_of_ble_eq_true rfl)
  rw [lg_entry_eq]
  generalize (lg_sl ([.ref ae]) ++ List.replicate (1 - (lg_sl ([.ref ae])).length) Slot.unset).toArray = ls at hl ⊢
  have hl : lv_has ls 1 [(0, .ref ae)] := hl
  have hS : va_S zF s.heap s.heap [] := va_S.rf
  refine lv_aload_n hx hb dX3_init_0 rfl (lv_at hl 0 rfl) ?_
  refine W.objInit hx hb hown (hts (.methodLink RX3 1 objectInit) (List.mem_of_getElem? (i := 1) rfl)) (hts (.instanceMethod objectInit) (List.mem_of_getElem? (i := 2) rfl)) (hts (.code objectInit ⟨#[0xb1]⟩ 1 none) (List.mem_of_getElem? (i := 3) rfl)) rfl (by rw [hml]; exact hl.1) rfl dX3_init_1 (Nat.le_of_ble_eq_true rfl) (Nat.le_of_ble_eq_true rfl) ?_
  refine W.eq (g2 := F0 m 4 ls []) rfl ?_
  exact W.vret hx hb hr (fun t ht hW => ⟨⟨(), rfl, trivial, trivial⟩, hS.F ht⟩) hS.2.2 dX3_init_4

set_option maxHeartbeats 4000000 in
set_option maxRecDepth 100000 in
theorem c_X1_init (l : Launch) (dC : Nat → ClassId) (dI : Nat → Nat → Nat) (cyI cyJ : ClassId) (ae sz : Nat) : Met l yX1_init wsX1_init ({ frames := 1, cells := 1, slots := 13500, locals := 16 }) (va_Pc [.ref ae] (fun U => U.heap.size = sz ∧ va_P (dC, dI) vwCl [(ae, .inr (0, [.null, .int 0]))] U.heap ∧ va_K (dC, dI) vwCl [(cyI, .int)] U)) (va_Qv (fun (_ : Unit) => True) (fun _ t => ∃ u9 : Nat, va_P (dC, dI) vwCl [(ae, .inr (0, [.ref u9, .int 0])), (u9, .inl (cyI, 13500, .inl (fun _ => 0)))] t.heap ∧ va_D (va_A [(ae, .inr (0, [.null, .int 0]))] sz) [(ae, .inr (0, [.ref u9, .int 0])), (u9, .inl (cyI, 13500, .inl (fun _ => 0)))]) (va_A [(ae, .inr (0, [.null, .int 0]))] sz)) 1 13500 (va_A [(ae, .inr (0, [.null, .int 0]))] sz) := by
  refine Met.ofW (cc := cX1_init) (maxL := 1) (ret := none) (by decide) rfl ?_
  intro p e s m args below meth c s₁ B hml hv
  obtain ⟨rfl, hsz, hP, hK⟩ := hv
  have hx := B.exec
  have hb := B.bytes
  have hr := B.returns
  have hts := atoms_spec (ws := wsX1_init) B.pre
  have hown : s.vm.findClass RX1 = some m.cls := findClass_of_methodNamed B.named
  have hlocks := B.notSynchronized
  have hinX1 : ∀ w ∈ wsX10, w ∈ wsX1_init := by decide +kernel
  have hl := lv_entry ([.ref ae]) (n := 1) (Nat.le_of_ble_eq_true rfl)
  rw [lg_entry_eq]
  generalize (lg_sl ([.ref ae]) ++ List.replicate (1 - (lg_sl ([.ref ae])).length) Slot.unset).toArray = ls at hl ⊢
  have hl : lv_has ls 1 [(0, .ref ae)] := hl
  have hin : meth.name = "<init>" := (name_of_methodNamed B.named B.method).1
  subst hsz
  have hD := zD.va (ws := [(ae, .inr (0, [.null, .int 0]))]) (A := va_A [(ae, .inr (0, [.null, .int 0]))] s.heap.size) ⟨List.nodup_cons.mpr ⟨(fun h => by cases h), List.nodup_nil⟩, fun a h => by cases List.mem_singleton.mp h; exact va_A.in (k := 0) rfl⟩ rfl
  generalize hAe : va_A [(ae, .inr (0, [.null, .int 0]))] s.heap.size = A at hD ⊢
  have hA : ∀ q : Nat, s.heap.size ≤ q → A q := fun q h => by rw [← hAe]; exact Or.inr h
  have hS : va_S A s.heap s.heap [] := va_S.rf
  refine lv_aload_n hx hb dX1_init_0 rfl (lv_at hl 0 rfl) ?_
  refine W.objInit hx hb hown (hts (.methodLink RX1 5 objectInit) (List.mem_of_getElem? (i := 1) rfl)) (hts (.instanceMethod objectInit) (List.mem_of_getElem? (i := 2) rfl)) (hts (.code objectInit ⟨#[0xb1]⟩ 1 none) (List.mem_of_getElem? (i := 3) rfl)) rfl (by rw [hml]; exact hl.1) rfl dX1_init_1 (Nat.le_of_ble_eq_true rfl) (Nat.le_of_ble_eq_true rfl) ?_
  refine W.eq (g2 := F0 m 4 ls []) rfl ?_
  refine lv_aload_n hx hb dX1_init_4 rfl (lv_at hl 0 rfl) ?_
  refine lv_sipush (v := 13500) hx hb dX1_init_5 (by decide) ?_
  refine zi_newa (atype := .int) (ty := .int) (a0 := (13500, .inl (fun _ => 0))) (N' := 13500) hx hb (hts (.arrayClass .int) (List.mem_of_getElem? (i := 4) rfl)) rfl hK 0 rfl (fun _ h => h) hP hD hS hA (fun _ => rfl) (by decide +kernel) (by decide +kernel) (by decide +kernel) (by decide +kernel) (by decide +kernel) dX1_init_8 (fun at_ H hP hD hS => ?_)
  have hP : va_P (dC, dI) vwCl [(ae, .inr (0, [.null, .int 0])), (at_, .inl (cyI, 13500, .inl (fun _ => 0)))] H := hP
  have hD : va_D A [(ae, .inr (0, [.null, .int 0])), (at_, .inl (cyI, 13500, .inl (fun _ => 0)))] := hD
  refine va_putF (D := (dC, dI)) (ci := 0) (v := .ref at_) (ty := .array .int) (C := RX1) (T := TX1) (N := 2) hx hb hts hinX1 tyX1 tyX1_ok nmX1 hown hK hP hD hS 0 rfl rfl 0 (by decide) (hts (.fieldLink RX1 13 "RoyalUrTable$Endings" "worths" "[I") (List.mem_of_getElem? (i := 5) rfl)) (fun _ h9 => h9) rfl hin rfl (by decide +kernel) rfl rfl (Nat.le_of_ble_eq_true rfl) dX1_init_10 (fun H locs hP hD9 hS => ?_)
  have hD := hD9
  have hP : va_P (dC, dI) vwCl [(ae, .inr (0, [.ref at_, .int 0])), (at_, .inl (cyI, 13500, .inl (fun _ => 0)))] H := hP
  refine W.widen (k := 1) (n := 13500) (by decide +kernel) (by decide +kernel) ?_
  exact W.vret hx hb hr (fun t ht hW => ⟨⟨(), rfl, trivial, ⟨at_, zh ht hP, hD⟩⟩, hS.F ht⟩) hS.2.2 dX1_init_13

set_option maxHeartbeats 4000000 in
set_option maxRecDepth 100000 in
theorem c_X5_init (l : Launch) (dC : Nat → ClassId) (dI : Nat → Nat → Nat) (cyI cyJ : ClassId) (ax sz : Nat) : Met l yX5_init wsX5_init ({ frames := 2, cells := 5, slots := 13521, locals := 41 }) (va_Pc [.ref ax] (fun U => U.heap.size = sz ∧ va_P (dC, dI) vwCl [(ax, .inr (2, [.null, .null, .null, .null, .int 0, .int 0, .int 0, .int 0, .int 0]))] U.heap ∧ va_K (dC, dI) vwCl [(cyI, .int)] U ∧ va_Nw (.methodLinkNest RX5 9 yX3_init "RoyalUrTable") U)) (va_Qv (fun (_ : Unit) => True) (fun _ t => ∃ a0 a1 ae at_ aw : Nat, va_P (dC, dI) vwCl [(ax, .inr (2, [.ref a0, .ref a1, .ref ae, .ref aw, .int (nI 2), .int 0, .int (-1), .int (-1), .int 0])), (a0, .inr (1, [.long (lN 2), .int 0])), (a1, .inr (1, [.long (lN 2), .int 0])), (ae, .inr (0, [.ref at_, .int 0])), (at_, .inl (cyI, 13500, .inl (fun _ => 0))), (aw, .inl (cyI, 15, .inl (fun _ => 0)))] t.heap ∧ va_D (va_A [(ax, .inr (2, [.null, .null, .null, .null, .int 0, .int 0, .int 0, .int 0, .int 0]))] sz) [(ax, .inr (2, [.ref a0, .ref a1, .ref ae, .ref aw, .int (nI 2), .int 0, .int (-1), .int (-1), .int 0])), (a0, .inr (1, [.long (lN 2), .int 0])), (a1, .inr (1, [.long (lN 2), .int 0])), (ae, .inr (0, [.ref at_, .int 0])), (at_, .inl (cyI, 13500, .inl (fun _ => 0))), (aw, .inl (cyI, 15, .inl (fun _ => 0)))]) (va_A [(ax, .inr (2, [.null, .null, .null, .null, .int 0, .int 0, .int 0, .int 0, .int 0]))] sz)) 5 13521 (va_A [(ax, .inr (2, [.null, .null, .null, .null, .int 0, .int 0, .int 0, .int 0, .int 0]))] sz) := by
  refine Met.ofW (cc := cX5_init) (maxL := 1) (ret := none) (by decide) rfl ?_
  intro p e s m args below meth c s₁ B hml hv
  obtain ⟨rfl, hsz, hP, hK, hX⟩ := hv
  have hx := B.exec
  have hb := B.bytes
  have hr := B.returns
  have hts := atoms_spec (ws := wsX5_init) B.pre
  have hown : s.vm.findClass RX5 = some m.cls := findClass_of_methodNamed B.named
  have hlocks := B.notSynchronized
  have hinX1 : ∀ w ∈ wsX10, w ∈ wsX5_init := by decide +kernel
  have hinX3 : ∀ w ∈ wsX30, w ∈ wsX5_init := by decide +kernel
  have hinX5 : ∀ w ∈ wsX50, w ∈ wsX5_init := by decide +kernel
  have hl := lv_entry ([.ref ax]) (n := 1) (Nat.le_of_ble_eq_true rfl)
  rw [lg_entry_eq]
  generalize (lg_sl ([.ref ax]) ++ List.replicate (1 - (lg_sl ([.ref ax])).length) Slot.unset).toArray = ls at hl ⊢
  have hl : lv_has ls 1 [(0, .ref ax)] := hl
  have hin : meth.name = "<init>" := (name_of_methodNamed B.named B.method).1
  subst hsz
  have hD := zD.va (ws := [(ax, .inr (2, [.null, .null, .null, .null, .int 0, .int 0, .int 0, .int 0, .int 0]))]) (A := va_A [(ax, .inr (2, [.null, .null, .null, .null, .int 0, .int 0, .int 0, .int 0, .int 0]))] s.heap.size) ⟨List.nodup_cons.mpr ⟨(fun h => by cases h), List.nodup_nil⟩, fun a h => by cases List.mem_singleton.mp h; exact va_A.in (k := 0) rfl⟩ rfl
  generalize hAe : va_A [(ax, .inr (2, [.null, .null, .null, .null, .int 0, .int 0, .int 0, .int 0, .int 0]))] s.heap.size = A at hD ⊢
  have hA : ∀ q : Nat, s.heap.size ≤ q → A q := fun q h => by rw [← hAe]; exact Or.inr h
  have hS : va_S A s.heap s.heap [] := va_S.rf
  refine lv_aload_n hx hb dX5_init_0 rfl (lv_at hl 0 rfl) ?_
  refine W.objInit hx hb hown (hts (.methodLink RX5 1 objectInit) (List.mem_of_getElem? (i := 1) rfl)) (hts (.instanceMethod objectInit) (List.mem_of_getElem? (i := 2) rfl)) (hts (.code objectInit ⟨#[0xb1]⟩ 1 none) (List.mem_of_getElem? (i := 3) rfl)) rfl (by rw [hml]; exact hl.1) rfl dX5_init_1 (Nat.le_of_ble_eq_true rfl) (Nat.le_of_ble_eq_true rfl) ?_
  refine W.eq (g2 := F0 m 4 ls []) rfl ?_
  refine lv_aload_n hx hb dX5_init_4 rfl (lv_at hl 0 rfl) ?_
  refine va_new (ci := 1) (fs := [.long 0, .int 0]) (C := RX3) (T := TX3) (N := 2) hx hb hts hinX3 tyX3 tyX3_ok hown (hts (.classLink RX5 7 RX3) (List.mem_of_getElem? (i := 4) rfl)) (hts (.instantiable RX3 2) (List.mem_of_getElem? (i := 5) rfl)) (hts (.initialized RX3) (List.mem_of_getElem? (i := 6) rfl)) hK hP hD hS hA rfl (fun j hj => by rcases (show j = 0 ∨ j = 1 by omega) with rfl | rfl <;> rfl) (by decide +kernel) (by decide +kernel) dX5_init_5 (fun a0 H hP hD hS => ?_)
  have hP : va_P (dC, dI) vwCl [(ax, .inr (2, [.null, .null, .null, .null, .int 0, .int 0, .int 0, .int 0, .int 0])), (a0, .inr (1, [.long 0, .int 0]))] H := hP
  have hD : va_D A [(ax, .inr (2, [.null, .null, .null, .null, .int 0, .int 0, .int 0, .int 0, .int 0])), (a0, .inr (1, [.long 0, .int 0]))] := hD
  refine lv_dup hx hb dX5_init_8 rfl ?_
  refine zro_v (va_runIN (As := []) (rest := [.ref a0, .ref ax]) ⟨hx, hb, hml, hown, hts⟩ (c_X3_init l a0) ⟨va_cnB 0 hts gX5_init_X3_init_n9 rfl rfl rfl hX (hts (.initialized RX3) (List.mem_of_getElem? (i := 6) rfl)) (by decide +kernel) ⟨by decide +kernel, by decide +kernel⟩, rfl, (hts (.instanceMethod yX3_init) (List.mem_of_getElem? (i := 15) rfl))⟩ zPu rfl rfl hl.1 rfl (lv_room (Nat.le_of_ble_eq_true rfl)) dX5_init_9 ⟨by decide +kernel, by decide +kernel⟩) hP hS (fun H locs hP hS => ?_)
  refine va_putF (D := (dC, dI)) (ci := 2) (v := .ref a0) (ty := .object "RoyalUrTable$Side") (C := RX5) (T := TX5) (N := 9) hx hb hts hinX5 tyX5 tyX5_ok nmX5 hown hK hP hD hS 0 rfl rfl 0 (by decide) (hts (.fieldLink RX5 10 "RoyalUrTable" "side0" "LRoyalUrTable$Side;") (List.mem_of_getElem? (i := 7) rfl)) (fun _ h9 => h9) rfl hin rfl (by decide +kernel) rfl rfl (Nat.le_of_ble_eq_true rfl) dX5_init_12 (fun H locs hP hD9 hS => ?_)
  have hD := hD9
  have hP : va_P (dC, dI) vwCl [(ax, .inr (2, [.ref a0, .null, .null, .null, .int 0, .int 0, .int 0, .int 0, .int 0])), (a0, .inr (1, [.long 0, .int 0]))] H := hP
  refine lv_aload_n hx hb dX5_init_15 rfl (lv_at hl 0 rfl) ?_
  refine va_new (ci := 1) (fs := [.long 0, .int 0]) (C := RX3) (T := TX3) (N := 2) hx hb hts hinX3 tyX3 tyX3_ok hown (hts (.classLink RX5 7 RX3) (List.mem_of_getElem? (i := 4) rfl)) (hts (.instantiable RX3 2) (List.mem_of_getElem? (i := 5) rfl)) (hts (.initialized RX3) (List.mem_of_getElem? (i := 6) rfl)) hK hP hD hS hA rfl (fun j hj => by rcases (show j = 0 ∨ j = 1 by omega) with rfl | rfl <;> rfl) (by decide +kernel) (by decide +kernel) dX5_init_16 (fun a1 H hP hD hS => ?_)
  have hP : va_P (dC, dI) vwCl [(ax, .inr (2, [.ref a0, .null, .null, .null, .int 0, .int 0, .int 0, .int 0, .int 0])), (a0, .inr (1, [.long 0, .int 0])), (a1, .inr (1, [.long 0, .int 0]))] H := hP
  have hD : va_D A [(ax, .inr (2, [.ref a0, .null, .null, .null, .int 0, .int 0, .int 0, .int 0, .int 0])), (a0, .inr (1, [.long 0, .int 0])), (a1, .inr (1, [.long 0, .int 0]))] := hD
  refine lv_dup hx hb dX5_init_19 rfl ?_
  refine zro_v (va_runIN (As := []) (rest := [.ref a1, .ref ax]) ⟨hx, hb, hml, hown, hts⟩ (c_X3_init l a1) ⟨va_cnB 0 hts gX5_init_X3_init_n9 rfl rfl rfl hX (hts (.initialized RX3) (List.mem_of_getElem? (i := 6) rfl)) (by decide +kernel) ⟨by decide +kernel, by decide +kernel⟩, rfl, (hts (.instanceMethod yX3_init) (List.mem_of_getElem? (i := 15) rfl))⟩ zPu rfl rfl hl.1 rfl (lv_room (Nat.le_of_ble_eq_true rfl)) dX5_init_20 ⟨by decide +kernel, by decide +kernel⟩) hP hS (fun H locs hP hS => ?_)
  refine va_putF (D := (dC, dI)) (ci := 2) (v := .ref a1) (ty := .object "RoyalUrTable$Side") (C := RX5) (T := TX5) (N := 9) hx hb hts hinX5 tyX5 tyX5_ok nmX5 hown hK hP hD hS 0 rfl rfl 1 (by decide) (hts (.fieldLink RX5 16 "RoyalUrTable" "side1" "LRoyalUrTable$Side;") (List.mem_of_getElem? (i := 8) rfl)) (fun _ h9 => h9) rfl hin rfl (by decide +kernel) rfl rfl (Nat.le_of_ble_eq_true rfl) dX5_init_23 (fun H locs hP hD9 hS => ?_)
  have hD := hD9
  have hP : va_P (dC, dI) vwCl [(ax, .inr (2, [.ref a0, .ref a1, .null, .null, .int 0, .int 0, .int 0, .int 0, .int 0])), (a0, .inr (1, [.long 0, .int 0])), (a1, .inr (1, [.long 0, .int 0]))] H := hP
  refine lv_aload_n hx hb dX5_init_26 rfl (lv_at hl 0 rfl) ?_
  refine va_new (ci := 0) (fs := [.null, .int 0]) (C := RX1) (T := TX1) (N := 2) hx hb hts hinX1 tyX1 tyX1_ok hown (hts (.classLink RX5 19 RX1) (List.mem_of_getElem? (i := 9) rfl)) (hts (.instantiable RX1 2) (List.mem_of_getElem? (i := 10) rfl)) (hts (.initialized RX1) (List.mem_of_getElem? (i := 11) rfl)) hK hP hD hS hA rfl (fun j hj => by rcases (show j = 0 ∨ j = 1 by omega) with rfl | rfl <;> rfl) (by decide +kernel) (by decide +kernel) dX5_init_27 (fun ae H hP hD hS => ?_)
  have hP : va_P (dC, dI) vwCl [(ax, .inr (2, [.ref a0, .ref a1, .null, .null, .int 0, .int 0, .int 0, .int 0, .int 0])), (a0, .inr (1, [.long 0, .int 0])), (a1, .inr (1, [.long 0, .int 0])), (ae, .inr (0, [.null, .int 0]))] H := hP
  have hD : va_D A [(ax, .inr (2, [.ref a0, .ref a1, .null, .null, .int 0, .int 0, .int 0, .int 0, .int 0])), (a0, .inr (1, [.long 0, .int 0])), (a1, .inr (1, [.long 0, .int 0])), (ae, .inr (0, [.null, .int 0]))] := hD
  refine lv_dup hx hb dX5_init_30 rfl ?_
  have hFc := va_free (wc := [(ae, .inr (0, [.null, .int 0]))]) hD hS hA [3] rfl
  have hPc := hP.sub (ws' := [(ae, .inr (0, [.null, .int 0]))]) [3] rfl
  refine va_callv (va_runI (As := []) (rest := [.ref ae, .ref ax]) ⟨hx, hb, hml, hown, hts⟩ (c_X1_init l dC dI cyI cyJ ae H.size) (cwI 0 hts gX5_init_X1_init rfl rfl rfl (hts (.initialized RX1) (List.mem_of_getElem? (i := 11) rfl)) (hts (.methodLink RX5 21 yX1_init) (List.mem_of_getElem? (i := 18) rfl)) (hts (.instanceMethod yX1_init) (List.mem_of_getElem? (i := 19) rfl)) rfl (by decide +kernel) ⟨by decide +kernel, by decide +kernel⟩) ⟨fun a U g mk q => ⟨q.1, q.2.1, q.2.2.1, va_K.moved (u := U) (U := U.calling g mk a) (Vm.Alike.refl U.vm) q.2.2.2⟩, fun U hU hW => ⟨rfl, by rw [hU], by rw [hU]; exact hPc, va_K.moved hW.alike hK⟩⟩ rfl rfl hl.1 rfl (lv_room (Nat.le_of_ble_eq_true rfl)) dX5_init_31 ⟨by decide +kernel, by decide +kernel⟩) hS (fun q _ h => hFc q h) hFc (fun u t H1 locs ht9 hvm hw hB hz1 hk1 hS => ?_)
  obtain ⟨at_, hP1, hD1⟩ := hB
  rw [ht9] at hP1
  obtain ⟨hP, hD⟩ := va_join (wr := [(ax, .inr (2, [.ref a0, .ref a1, .null, .null, .int 0, .int 0, .int 0, .int 0, .int 0])), (a0, .inr (1, [.long 0, .int 0])), (a1, .inr (1, [.long 0, .int 0]))]) (w1 := [(ae, .inr (0, [.ref at_, .int 0])), (at_, .inl (cyI, 13500, .inl (fun _ => 0)))]) hP hD [3] [0, 1, 2] rfl rfl (by decide) (by decide) hk1 hFc hP1 hD1
  generalize H1 = H at hP hS ⊢
  have hP : va_P (dC, dI) vwCl [(ax, .inr (2, [.ref a0, .ref a1, .null, .null, .int 0, .int 0, .int 0, .int 0, .int 0])), (a0, .inr (1, [.long 0, .int 0])), (a1, .inr (1, [.long 0, .int 0])), (ae, .inr (0, [.ref at_, .int 0])), (at_, .inl (cyI, 13500, .inl (fun _ => 0)))] H := hP
  have hD : va_D A [(ax, .inr (2, [.ref a0, .ref a1, .null, .null, .int 0, .int 0, .int 0, .int 0, .int 0])), (a0, .inr (1, [.long 0, .int 0])), (a1, .inr (1, [.long 0, .int 0])), (ae, .inr (0, [.ref at_, .int 0])), (at_, .inl (cyI, 13500, .inl (fun _ => 0)))] := hD
  refine va_putF (D := (dC, dI)) (ci := 2) (v := .ref ae) (ty := .object "RoyalUrTable$Endings") (C := RX5) (T := TX5) (N := 9) hx hb hts hinX5 tyX5 tyX5_ok nmX5 hown hK hP hD hS 0 rfl rfl 2 (by decide) (hts (.fieldLink RX5 22 "RoyalUrTable" "endings" "LRoyalUrTable$Endings;") (List.mem_of_getElem? (i := 12) rfl)) (fun _ h9 => h9) rfl hin rfl (by decide +kernel) rfl rfl (Nat.le_of_ble_eq_true rfl) dX5_init_34 (fun H locs hP hD9 hS => ?_)
  have hD := hD9
  have hP : va_P (dC, dI) vwCl [(ax, .inr (2, [.ref a0, .ref a1, .ref ae, .null, .int 0, .int 0, .int 0, .int 0, .int 0])), (a0, .inr (1, [.long 0, .int 0])), (a1, .inr (1, [.long 0, .int 0])), (ae, .inr (0, [.ref at_, .int 0])), (at_, .inl (cyI, 13500, .inl (fun _ => 0)))] H := hP
  refine lv_aload_n hx hb dX5_init_37 rfl (lv_at hl 0 rfl) ?_
  refine lv_bipush (v := 15) hx hb dX5_init_38 (by decide) ?_
  refine zi_newa (atype := .int) (ty := .int) (a0 := (15, .inl (fun _ => 0))) (N' := 15) hx hb (hts (.arrayClass .int) (List.mem_of_getElem? (i := 13) rfl)) rfl hK 0 rfl (fun _ h => h) hP hD hS hA (fun _ => rfl) (by decide +kernel) (by decide +kernel) (by decide +kernel) (by decide +kernel) (by decide +kernel) dX5_init_40 (fun aw H hP hD hS => ?_)
  have hP : va_P (dC, dI) vwCl [(ax, .inr (2, [.ref a0, .ref a1, .ref ae, .null, .int 0, .int 0, .int 0, .int 0, .int 0])), (a0, .inr (1, [.long 0, .int 0])), (a1, .inr (1, [.long 0, .int 0])), (ae, .inr (0, [.ref at_, .int 0])), (at_, .inl (cyI, 13500, .inl (fun _ => 0))), (aw, .inl (cyI, 15, .inl (fun _ => 0)))] H := hP
  have hD : va_D A [(ax, .inr (2, [.ref a0, .ref a1, .ref ae, .null, .int 0, .int 0, .int 0, .int 0, .int 0])), (a0, .inr (1, [.long 0, .int 0])), (a1, .inr (1, [.long 0, .int 0])), (ae, .inr (0, [.ref at_, .int 0])), (at_, .inl (cyI, 13500, .inl (fun _ => 0))), (aw, .inl (cyI, 15, .inl (fun _ => 0)))] := hD
  refine va_putF (D := (dC, dI)) (ci := 2) (v := .ref aw) (ty := .array .int) (C := RX5) (T := TX5) (N := 9) hx hb hts hinX5 tyX5 tyX5_ok nmX5 hown hK hP hD hS 0 rfl rfl 3 (by decide) (hts (.fieldLink RX5 28 "RoyalUrTable" "worthsBehind" "[I") (List.mem_of_getElem? (i := 14) rfl)) (fun _ h9 => h9) rfl hin rfl (by decide +kernel) rfl rfl (Nat.le_of_ble_eq_true rfl) dX5_init_42 (fun H locs hP hD9 hS => ?_)
  have hD := hD9
  have hP : va_P (dC, dI) vwCl [(ax, .inr (2, [.ref a0, .ref a1, .ref ae, .ref aw, .int 0, .int 0, .int 0, .int 0, .int 0])), (a0, .inr (1, [.long 0, .int 0])), (a1, .inr (1, [.long 0, .int 0])), (ae, .inr (0, [.ref at_, .int 0])), (at_, .inl (cyI, 13500, .inl (fun _ => 0))), (aw, .inl (cyI, 15, .inl (fun _ => 0)))] H := hP
  have hDD := zD_of hD
  have hDD : zD A [ax, a0, a1, ae, at_, aw] := hDD
  refine lv_aload_n hx hb dX5_init_45 rfl (lv_at hl 0 rfl) ?_
  refine lv_iconst (v := 2) hx hb dX5_init_46 (by decide) ?_
  refine zz_i (y := nI 2) rfl ?_
  refine zrw_v (w1 := fun _ : Unit => [(ax, .inr (2, [.ref a0, .ref a1, .ref ae, .ref aw, .int (nI 2), .int 0, .int (-1), .int (-1), .int 0])), (a0, .inr (1, [.long (lN 2), .int 0])), (a1, .inr (1, [.long (lN 2), .int 0]))]) (al := [ax, a0, a1]) (va_runV (As := [.int (nI 2)]) (rest := []) ⟨hx, hb, hml, hown, hts⟩ (c_X5_setUp l dC dI cyI cyJ ax a0 a1 ae aw a0 a1 0 0 0 0 0 0 0 0 0 0 (Or.inl ⟨rfl, rfl, rfl⟩) 2 (by decide) (z_nd hDD.1 [0, 1, 2] (by decide) rfl)) (cwV 1 hts gX5_init_X5_setUp rfl rfl rfl (by decide +kernel) ⟨Nat.le_of_ble_eq_true rfl, Nat.le_of_ble_eq_true rfl⟩) (zPc_V (ci := 2) (q0 := 0) zB_T hP hK rfl rfl [0, 1, 2] rfl (fun _ _ _ => trivial)) rfl rfl hl.1 rfl (lv_room (Nat.le_of_ble_eq_true rfl)) dX5_init_47 ⟨by decide +kernel, by decide +kernel⟩) hP hDD hS [0, 1, 2] rfl (fun _ => rfl) (fun u_47 H locs hw_47 hP hS => ?_)
  have hP : va_P (dC, dI) vwCl [(ax, .inr (2, [.ref a0, .ref a1, .ref ae, .ref aw, .int (nI 2), .int 0, .int (-1), .int (-1), .int 0])), (a0, .inr (1, [.long (lN 2), .int 0])), (a1, .inr (1, [.long (lN 2), .int 0])), (ae, .inr (0, [.ref at_, .int 0])), (at_, .inl (cyI, 13500, .inl (fun _ => 0))), (aw, .inl (cyI, 15, .inl (fun _ => 0)))] H := hP
  refine W.widen (k := 5) (n := 13521) (by decide +kernel) (by decide +kernel) ?_
  exact W.vret hx hb hr (fun t ht hW => ⟨⟨(), rfl, trivial, ⟨a0, a1, ae, at_, aw, zh ht (hP.sub [0, 1, 2, 3, 4, 5] rfl), hDD.va rfl⟩⟩, hS.F ht⟩) hS.2.2 dX5_init_50

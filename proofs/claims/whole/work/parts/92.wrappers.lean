/-! the law's wrappers: a call of the class, and what it threw told as a number -/
def zH (t : Nat) (A : Nat → Prop) (U : State) (H : Heap) : Prop := zG t A U H ∧ va_Nc zIS zIA U
theorem zB_H {t : Nat} {A : Nat → Prop} : zB (fun U => zH t A U U.heap) := fun U V hv hh h => ⟨zB_G U V hv hh h.1, h.2.moved hv⟩
theorem zH_at {t : Nat} {A B : Nat → Prop} {s : State} {H : Heap} {locs : List Loc} (h : zH t A s s.heap) (hS : va_S A s.heap H locs) (hAB : ∀ q, B q → A q) : ∀ U : State, U.heap = H → s.vm.Alike U.vm → zH t B U U.heap := fun U hU hv => ⟨zG_at h.1 hS hAB U hU hv, h.2.moved hv⟩
def zOp {σ : Type} (u : Option σ) (f : σ → va_W) (w : va_W) : va_W := match u with | some x => f x | none => w
theorem zOp_fst {σ : Type} {f : σ → va_W} {w : va_W} {al : List Nat} (h1 : ∀ x, (f x).map Prod.fst = al) (h2 : w.map Prod.fst = al) (u : Option σ) : (zOp u f w).map Prod.fst = al := by cases u with | none => exact h2 | some x => exact h1 x
section ZW
variable {p : Program} {l : Launch} {e : Env} {R : Room} {s : State} {m : MethodId} {args : Array Value} {below : List Frame} {meth : Method} {c : Code} {H : Heap} {locs : List Loc} {cells slots m1 s1 : Nat} {Q : State → Prop}
variable {cc : ByteArray} {pc : Nat} {ls : Array Slot} {rest st0 : List Value} {D : va_G} {cl : List vw_C} {A A0 : Nat → Prop} {a : Nat} {tys : List (ClassId × FieldType)} {ws : va_W} {H0 : Heap} {av : Array Value}
theorem zi_dast (hexec : p.tables.exec = Jvm.exec) (hb : c.code = cc) (hK : va_K D cl tys s) (hP : va_P D cl ws H) (hDD : zD A (ws.map Prod.fst)) (hS : va_S A H0 H locs) (q0 t0 : Nat) {cA : ClassId} {n : Nat} {f : Nat → UInt64} (ha : ws[q0]? = some (a, .inl (cA, n, .inr (.inr (.inr (.inl f)))))) (ht : tys[t0]? = some (cA, .double)) {i : Int32} {x : UInt64} {j : Nat} (hi : i = nI j) (hj : j < n) (hn : n < 2 ^ 31) (hdg : decode cc pc = .ok (.dastore, 1))
    (kk : ∀ (H1 : Heap) (locs1 : List Loc), va_P D cl (ws.set q0 (a, .inl (cA, n, .inr (.inr (.inr (.inl (vf_upd f j x))))))) H1 → va_S A H0 H1 locs1 → W p l e R s m args below meth c H1 locs1 cells slots Q (F0 m (pc + 1) ls rest)) : W p l e R s m args below meth c H locs cells slots Q (F0 m pc ls (.double x :: .int i :: .ref a :: rest)) := by
  subst hi
  refine va_dast hexec hb hK hP (hDD.va rfl) hS q0 t0 ha ht (vp_in_nI hj hn) hdg (fun H1 locs1 h1 _ h3 => ?_)
  rw [nI_clamp (by omega)] at h1
  exact kk H1 locs1 h1 h3
theorem zwx_i {σ : Type} {post : Int32 → σ → Prop} {w1 : σ → va_W} {al : List Nat} {xc : String → Prop} (hr : vx_Run p l e R s m args below meth c H locs cells slots m1 s1 (F0 m pc ls st0) rest (va_Qi post (fun u t => va_P D cl (w1 u) t.heap) (zA al) av) (vx_X (fun (_ : Unit) => True) (fun (E : String) _ _ => xc E) zF) (zA al)) (hP : va_P D cl ws H) (hDD : zD A0 (ws.map Prod.fst)) (hS : va_S A0 H0 H locs) (isC : List Nat) (hal : isC.map (fun i => (ws[i]?).map Prod.fst) = al.map some) (hw1 : ∀ u, (w1 u).map Prod.fst = al)
    (kx : ∀ (E : String) (ce : Cell) (q9 : Addr) (H1 : Heap) (locs1 : List Loc), xc E → va_P D cl ws H1 → va_S A0 H0 H1 locs1 → H1[q9]? = some ce → ce.vm = .none → s.vm.findClass E = some ce.cls → vx_W p l e R s m args below meth c H1 locs1 (cells + m1) (slots + s1) Q (F0 m pc ls rest) q9)
    (kk : ∀ (r : Int32) (u : σ) (H1 : Heap) (locs1 : List Loc), post r u → va_P D cl (zset ws isC (w1 u)) H1 → va_S A0 H0 H1 locs1 → W p l e R s m args below meth c H1 locs1 (cells + m1) (slots + s1) Q (F0 m (pc + 3) ls (.int r :: rest))) : W p l e R s m args below meth c H locs cells slots Q (F0 m pc ls st0) :=
  vx_calli hr hS (fun q _ h => zA_sub hDD hal q h) (zA_sub hDD hal) (fun _ _ h => h.elim)
    (fun E ce q9 _ t H1 locs1 ht hvm _ hB hz hk hS1 hce hcv hcl => kx E ce q9 H1 locs1 hB (hP.kept (fun k q hk2 => hk q.1 (hP k q hk2).lt (fun h => h))) hS1 hce hcv hcl)
    (fun r u t H1 locs1 ht hvm hw hB hz1 hk1 hS1 => kk r u H1 locs1 hw (zP_set isC hP hDD hal (hw1 u) hk1 (by rw [← ht]; exact hB)) hS1)
theorem zwf_i {post : Int32 → Unit → Prop} {xc : String → Prop} (hr : vx_Run p l e R s m args below meth c H locs cells slots m1 s1 (F0 m pc ls st0) rest (va_Qi post (fun _ _ => True) zF av) (vx_X (fun (_ : Unit) => True) (fun (E : String) _ _ => xc E) zF) zF) (hP : va_P D cl ws H) (hS : va_S A0 H0 H locs)
    (kx : ∀ (E : String) (ce : Cell) (q9 : Addr) (H1 : Heap) (locs1 : List Loc), xc E → va_P D cl ws H1 → va_S A0 H0 H1 locs1 → H1[q9]? = some ce → ce.vm = .none → s.vm.findClass E = some ce.cls → vx_W p l e R s m args below meth c H1 locs1 (cells + m1) (slots + s1) Q (F0 m pc ls rest) q9)
    (kk : ∀ (r : Int32) (H1 : Heap) (locs1 : List Loc), post r () → va_P D cl ws H1 → va_S A0 H0 H1 locs1 → W p l e R s m args below meth c H1 locs1 (cells + m1) (slots + s1) Q (F0 m (pc + 3) ls (.int r :: rest))) : W p l e R s m args below meth c H locs cells slots Q (F0 m pc ls st0) :=
  vx_calli hr hS (fun _ _ h => h.elim) (fun _ h => h.elim) (fun _ _ h => h.elim)
    (fun E ce q9 _ t H1 locs1 ht hvm _ hB hz hk hS1 hce hcv hcl => kx E ce q9 H1 locs1 hB (hP.kept (fun k q hk2 => hk q.1 (hP k q hk2).lt (fun h => h))) hS1 hce hcv hcl)
    (fun r u t H1 locs1 ht hvm hw hB hz1 hk1 hS1 => kk r H1 locs1 hw (hP.kept (fun k q hk2 => hk1 q.1 (hP k q hk2).lt (fun h => h))) hS1)
theorem zwx_d {σ : Type} {post : UInt64 → σ → Prop} {w1 : σ → va_W} {al : List Nat} {xc : String → Prop} (hr : vx_Run p l e R s m args below meth c H locs cells slots m1 s1 (F0 m pc ls st0) rest (va_Qd post (fun u t => va_P D cl (w1 u) t.heap) (zA al) av) (vx_X (fun (_ : Unit) => True) (fun (E : String) _ _ => xc E) zF) (zA al)) (hP : va_P D cl ws H) (hDD : zD A0 (ws.map Prod.fst)) (hS : va_S A0 H0 H locs) (isC : List Nat) (hal : isC.map (fun i => (ws[i]?).map Prod.fst) = al.map some) (hw1 : ∀ u, (w1 u).map Prod.fst = al)
    (kx : ∀ (E : String) (ce : Cell) (q9 : Addr) (H1 : Heap) (locs1 : List Loc), xc E → va_P D cl ws H1 → va_S A0 H0 H1 locs1 → H1[q9]? = some ce → ce.vm = .none → s.vm.findClass E = some ce.cls → vx_W p l e R s m args below meth c H1 locs1 (cells + m1) (slots + s1) Q (F0 m pc ls rest) q9)
    (kk : ∀ (r : UInt64) (u : σ) (H1 : Heap) (locs1 : List Loc), post r u → va_P D cl (zset ws isC (w1 u)) H1 → va_S A0 H0 H1 locs1 → W p l e R s m args below meth c H1 locs1 (cells + m1) (slots + s1) Q (F0 m (pc + 3) ls (.double r :: rest))) : W p l e R s m args below meth c H locs cells slots Q (F0 m pc ls st0) :=
  vx_calld hr hS (fun q _ h => zA_sub hDD hal q h) (zA_sub hDD hal) (fun _ _ h => h.elim)
    (fun E ce q9 _ t H1 locs1 ht hvm _ hB hz hk hS1 hce hcv hcl => kx E ce q9 H1 locs1 hB (hP.kept (fun k q hk2 => hk q.1 (hP k q hk2).lt (fun h => h))) hS1 hce hcv hcl)
    (fun r u t H1 locs1 ht hvm hw hB hz1 hk1 hS1 => kk r u H1 locs1 hw (zP_set isC hP hDD hal (hw1 u) hk1 (by rw [← ht]; exact hB)) hS1)
theorem zwf_d {post : UInt64 → Unit → Prop} {xc : String → Prop} (hr : vx_Run p l e R s m args below meth c H locs cells slots m1 s1 (F0 m pc ls st0) rest (va_Qd post (fun _ _ => True) zF av) (vx_X (fun (_ : Unit) => True) (fun (E : String) _ _ => xc E) zF) zF) (hP : va_P D cl ws H) (hS : va_S A0 H0 H locs)
    (kx : ∀ (E : String) (ce : Cell) (q9 : Addr) (H1 : Heap) (locs1 : List Loc), xc E → va_P D cl ws H1 → va_S A0 H0 H1 locs1 → H1[q9]? = some ce → ce.vm = .none → s.vm.findClass E = some ce.cls → vx_W p l e R s m args below meth c H1 locs1 (cells + m1) (slots + s1) Q (F0 m pc ls rest) q9)
    (kk : ∀ (r : UInt64) (H1 : Heap) (locs1 : List Loc), post r () → va_P D cl ws H1 → va_S A0 H0 H1 locs1 → W p l e R s m args below meth c H1 locs1 (cells + m1) (slots + s1) Q (F0 m (pc + 3) ls (.double r :: rest))) : W p l e R s m args below meth c H locs cells slots Q (F0 m pc ls st0) :=
  vx_calld hr hS (fun _ _ h => h.elim) (fun _ h => h.elim) (fun _ _ h => h.elim)
    (fun E ce q9 _ t H1 locs1 ht hvm _ hB hz hk hS1 hce hcv hcl => kx E ce q9 H1 locs1 hB (hP.kept (fun k q hk2 => hk q.1 (hP k q hk2).lt (fun h => h))) hS1 hce hcv hcl)
    (fun r u t H1 locs1 ht hvm hw hB hz1 hk1 hS1 => kk r H1 locs1 hw (hP.kept (fun k q hk2 => hk1 q.1 (hP k q hk2).lt (fun h => h))) hS1)
theorem zwx_v {σ : Type} {post : σ → Prop} {w1 : σ → va_W} {al : List Nat} {xc : String → Prop} (hr : vx_Run p l e R s m args below meth c H locs cells slots m1 s1 (F0 m pc ls st0) rest (va_Qv post (fun u t => va_P D cl (w1 u) t.heap) (zA al) av) (vx_X (fun (_ : Unit) => True) (fun (E : String) _ _ => xc E) zF) (zA al)) (hP : va_P D cl ws H) (hDD : zD A0 (ws.map Prod.fst)) (hS : va_S A0 H0 H locs) (isC : List Nat) (hal : isC.map (fun i => (ws[i]?).map Prod.fst) = al.map some) (hw1 : ∀ u, (w1 u).map Prod.fst = al)
    (kx : ∀ (E : String) (ce : Cell) (q9 : Addr) (H1 : Heap) (locs1 : List Loc), xc E → va_P D cl ws H1 → va_S A0 H0 H1 locs1 → H1[q9]? = some ce → ce.vm = .none → s.vm.findClass E = some ce.cls → vx_W p l e R s m args below meth c H1 locs1 (cells + m1) (slots + s1) Q (F0 m pc ls rest) q9)
    (kk : ∀ (u : σ) (H1 : Heap) (locs1 : List Loc), post u → va_P D cl (zset ws isC (w1 u)) H1 → va_S A0 H0 H1 locs1 → W p l e R s m args below meth c H1 locs1 (cells + m1) (slots + s1) Q (F0 m (pc + 3) ls rest)) : W p l e R s m args below meth c H locs cells slots Q (F0 m pc ls st0) :=
  vx_callv hr hS (fun q _ h => zA_sub hDD hal q h) (zA_sub hDD hal) (fun _ _ h => h.elim)
    (fun E ce q9 _ t H1 locs1 ht hvm _ hB hz hk hS1 hce hcv hcl => kx E ce q9 H1 locs1 hB (hP.kept (fun k q hk2 => hk q.1 (hP k q hk2).lt (fun h => h))) hS1 hce hcv hcl)
    (fun u t H1 locs1 ht hvm hw hB hz1 hk1 hS1 => kk u H1 locs1 hw (zP_set isC hP hDD hal (hw1 u) hk1 (by rw [← ht]; exact hB)) hS1)
end ZW
set_option maxHeartbeats 4000000 in
set_option maxRecDepth 100000 in
theorem c_L_begin (l : Launch) (hl0 : l.stackTraces = false) (dC : Nat → ClassId) (dI : Nat → Nat → Nat) (cyI cyJ : ClassId) (tb ax a0 a1 ae aw ao aq tn9 : Nat) (pI tI mk wn cnt lo lq : Int32) (lx ly : Int64) (hsd : zSd tn9 a0 a1 ao aq) (v : Int32) (hnd : [ax, ao, aq].Nodup) : vx_Met l yL_begin wsL_begin ({ frames := 8, cells := 1, slots := 6, locals := 133 }) (zPc [.ref ax, .int v] (dC, dI) vwCl [(cyI, .int), (cyJ, .long)] [(ax, .inr (2, [.ref a0, .ref a1, .ref ae, .ref aw, .int pI, .int tI, .int mk, .int wn, .int cnt])), (ao, .inr (1, [.long lx, .int lo])), (aq, .inr (1, [.long ly, .int lq]))] (fun U => zH tb (zA [ax, ao, aq]) U U.heap)) (va_Qi (fun (r : Int32) (u : Option (Nat)) => (∃ (x : Nat), u = some x ∧ r = 0 ∧ (fun (u : Nat) => 1 ≤ u ∧ u ≤ 4 ∧ v = nI u) x) ∨ (u = none ∧ (r = 1 ∧ ¬ (1 ≤ v ∧ v ≤ 4)))) (fun (u : Option (Nat)) t => va_P (dC, dI) vwCl (zOp u (fun u => [(ax, .inr (2, [.ref a0, .ref a1, .ref ae, .ref aw, .int (nI u), .int 0, .int (-1), .int (-1), .int 0])), (ao, .inr (1, [.long (lN u), .int 0])), (aq, .inr (1, [.long (lN u), .int 0]))]) [(ax, .inr (2, [.ref a0, .ref a1, .ref ae, .ref aw, .int pI, .int tI, .int mk, .int wn, .int cnt])), (ao, .inr (1, [.long lx, .int lo])), (aq, .inr (1, [.long ly, .int lq]))]) t.heap) (zA [ax, ao, aq])) (vx_X (fun (_ : Unit) => False) (fun (_ : String) _ _ => True) zF) 1 6 (zA [ax, ao, aq]) := by
  refine vx_ofWH (cc := cL_begin) (maxL := 3) (ret := (some .int)) (hh := [(0, 5, 8, 13)]) (by decide) rfl ?_
  intro p e s m args below meth c s₁ B hml hv
  obtain ⟨rfl, hP, hK, hX⟩ := hv
  have hx := B.exec
  have hb := B.bytes
  have hr := B.returns
  have hts := atoms_spec (ws := wsL_begin) B.pre
  have hown : s.vm.findClass RL = some m.cls := findClass_of_methodNamed B.named
  have hlocks := B.notSynchronized
  have hex : c.exceptionTable.toList = [⟨0, 5, 8, 13⟩] := (vx_table (x := yL_begin) B (hts _ List.mem_cons_self)).trans rfl
  have hl := lv_entry ([.ref ax, .int v]) (n := 3) (Nat.le_of_ble_eq_true rfl)
  rw [lg_entry_eq]
  generalize (lg_sl ([.ref ax, .int v]) ++ List.replicate (3 - (lg_sl ([.ref ax, .int v])).length) Slot.unset).toArray = ls at hl ⊢
  have hl : lv_has ls 3 [(0, .ref ax), (1, .int v)] := hl
  have hS : va_S (zA [ax, ao, aq]) s.heap s.heap [] := va_S.rf
  have hDD : zD (zA [ax, ao, aq]) [ax, ao, aq] := ⟨hnd, fun _ h => h⟩
  refine lv_aload_n hx hb dL_begin_0 rfl (lv_at hl 0 rfl) ?_
  refine lv_iload_n hx hb dL_begin_1 rfl (lv_at hl 1 rfl) ?_
  refine zwx_v (w1 := fun u : Nat => [(ax, .inr (2, [.ref a0, .ref a1, .ref ae, .ref aw, .int (nI u), .int 0, .int (-1), .int (-1), .int 0])), (ao, .inr (1, [.long (lN u), .int 0])), (aq, .inr (1, [.long (lN u), .int 0]))]) (al := [ax, ao, aq]) (vx_runV (As := [.int v]) (rest := []) ⟨hx, hb, hml, hown, hts⟩ (c_X5_begin l hl0 dC dI cyI cyJ tb ax a0 a1 ae aw ao aq tn9 pI tI mk wn cnt lo lq lx ly hsd v (z_nd hnd [0, 1, 2] (by decide) rfl)) (cwV 1 hts gL_begin_X5_begin rfl rfl rfl (by decide +kernel) ⟨Nat.le_of_ble_eq_true rfl, Nat.le_of_ble_eq_true rfl⟩) (zPc_V (ci := 2) (q0 := 0) zB_G hP hK rfl rfl [0, 1, 2] rfl (zG_at hX.1 hS (zA_pl [0, 1, 2] rfl))) rfl rfl hl.1 rfl (lv_room (Nat.le_of_ble_eq_true rfl)) dL_begin_2 ⟨Nat.le_of_ble_eq_true rfl, Nat.le_of_ble_eq_true rfl⟩) hP hDD hS [0, 1, 2] rfl (fun _ => rfl) (fun E ce q9 H locs hE hP hS hce hcv hcl => ?_) (fun u H locs hw hP hS => ?_)
  · skip
    have hP : va_P (dC, dI) vwCl [(ax, .inr (2, [.ref a0, .ref a1, .ref ae, .ref aw, .int pI, .int tI, .int mk, .int wn, .int cnt])), (ao, .inr (1, [.long lx, .int lo])), (aq, .inr (1, [.long ly, .int lq]))] H := hP
    obtain ⟨rfl, hE⟩ := hE
    refine vx_catch (name := zIA) hown [] ⟨0, 5, 8, 13⟩ [] hex (fun z hz => by cases hz) (by decide) (by decide) (hts (.classLink RL 13 "java/lang/IllegalArgumentException") (List.mem_of_getElem? (i := 1) rfl)) (va_Nw.use rfl hX.1.2.2.2.2.2.2.1) hce hcv hcl ?_
    refine lv_astore_n (lv' := [(2, .ref q9), (0, .ref ax), (1, .int v)]) hx hb dL_begin_8 rfl hl (by decide) rfl (fun ls hl => ?_)
    refine lv_iconst (v := 1) hx hb dL_begin_9 (by decide) ?_
    refine vx_ret (mc := 1) (ms := 6) ?_
    refine W.widen (k := 1) (n := 6) (Nat.le_of_ble_eq_true rfl) (Nat.le_of_ble_eq_true rfl) ?_
    exact W.iret (v := 1) hx hb hr (fun t ht hW => ⟨⟨_, none, rfl, Or.inr ⟨rfl, ⟨rfl, hE⟩⟩, zh ht hP⟩, hS.F ht⟩) hS.2.2 dL_begin_10
  · skip
    have hP : va_P (dC, dI) vwCl [(ax, .inr (2, [.ref a0, .ref a1, .ref ae, .ref aw, .int (nI u), .int 0, .int (-1), .int (-1), .int 0])), (ao, .inr (1, [.long (lN u), .int 0])), (aq, .inr (1, [.long (lN u), .int 0]))] H := hP
    refine lv_goto (tgt := 11) hx hb dL_begin_5 (by decide) ?_
    refine lv_iconst (v := 0) hx hb dL_begin_11 (by decide) ?_
    refine vx_ret (mc := 1) (ms := 6) ?_
    refine W.widen (k := 1) (n := 6) (Nat.le_of_ble_eq_true rfl) (Nat.le_of_ble_eq_true rfl) ?_
    exact W.iret (v := 0) hx hb hr (fun t ht hW => ⟨⟨_, some u, rfl, Or.inl ⟨u, rfl, rfl, hw⟩, zh ht hP⟩, hS.F ht⟩) hS.2.2 dL_begin_12

set_option maxHeartbeats 4000000 in
set_option maxRecDepth 100000 in
theorem c_L_tell (l : Launch) (hl0 : l.stackTraces = false) (dC : Nat → ClassId) (dI : Nat → Nat → Nat) (cyI cyJ : ClassId) (tb ax a0 a1 ae aw ao aq : Nat) (mk wn cnt lo lq : Int32) (k tn own oth mm : Nat) (hsd : zSd tn a0 a1 ao aq) (hO : zok k own) (hQ : zok k oth) (hmk : zmk mk mm) (hmm : mm ≤ 4) (v : Int32) (aL : Nat) (oF : Nat → Int64) (hnd : [ax, ao, aq, aL].Nodup) : vx_Met l yL_tell wsL_tell ({ frames := 8, cells := 2, slots := 12, locals := 134 }) (zPc [.ref ax, .int v, .ref aL] (dC, dI) vwCl [(cyI, .int), (cyJ, .long)] [(ax, .inr (2, [.ref a0, .ref a1, .ref ae, .ref aw, .int (nI k), .int (nI tn), .int mk, .int wn, .int cnt])), (ao, .inr (1, [.long (lN own), .int lo])), (aq, .inr (1, [.long (lN oth), .int lq])), (aL, .inl (cyJ, 1, .inr (.inl oF)))] (fun U => zH tb (zA [ax, ao, aq, aL]) U U.heap)) (va_Qi (fun (r : Int32) (u : Option (Int32 × Int32) × (Nat → Int64)) => (∃ (x : Int32 × Int32) (r9 : Int32), u.1 = some x ∧ r = 0 ∧ (fun (r : Int32) (u : Int32 × Int32) => ∃ mj, mj ≤ 4 ∧ v = nI mj ∧ wn = -1 ∧ mk = -1 ∧ r = nI (zNum own oth mj 15) ∧ u.1 = (if zNum own oth mj 15 = 0 then nI (1 - tn) else nI tn) ∧ u.2 = (if zNum own oth mj 15 = 0 then -1 else nI mj)) r9 x ∧ u.2 0 = r9.toInt64) ∨ (u.1 = none ∧ ((r = 1 ∧ ¬ (0 ≤ v ∧ v ≤ 4)) ∨ (r = 2 ∧ (0 ≤ v ∧ v ≤ 4) ∧ ¬ (wn = -1 ∧ mk = -1))))) (fun (u : Option (Int32 × Int32) × (Nat → Int64)) t => va_P (dC, dI) vwCl (zOp u.1 (fun u => [(ax, .inr (2, [.ref a0, .ref a1, .ref ae, .ref aw, .int (nI k), .int u.1, .int u.2, .int wn, .int (cnt + 1)])), (ao, .inr (1, [.long (lN own), .int lo])), (aq, .inr (1, [.long (lN oth), .int lq]))]) [(ax, .inr (2, [.ref a0, .ref a1, .ref ae, .ref aw, .int (nI k), .int (nI tn), .int mk, .int wn, .int cnt])), (ao, .inr (1, [.long (lN own), .int lo])), (aq, .inr (1, [.long (lN oth), .int lq]))] ++ [(aL, .inl (cyJ, 1, .inr (.inl u.2)))]) t.heap) (zA [ax, ao, aq, aL])) (vx_X (fun (_ : Unit) => False) (fun (_ : String) _ _ => True) zF) 2 12 (zA [ax, ao, aq, aL]) := by
  refine vx_ofWH (cc := cL_tell) (maxL := 4) (ret := (some .int)) (hh := [(0, 9, 12, 13), (0, 9, 15, 19)]) (by decide) rfl ?_
  intro p e s m args below meth c s₁ B hml hv
  obtain ⟨rfl, hP, hK, hX⟩ := hv
  have hx := B.exec
  have hb := B.bytes
  have hr := B.returns
  have hts := atoms_spec (ws := wsL_tell) B.pre
  have hown : s.vm.findClass RL = some m.cls := findClass_of_methodNamed B.named
  have hlocks := B.notSynchronized
  have hex : c.exceptionTable.toList = [⟨0, 9, 12, 13⟩, ⟨0, 9, 15, 19⟩] := (vx_table (x := yL_tell) B (hts _ List.mem_cons_self)).trans rfl
  have hl := lv_entry ([.ref ax, .int v, .ref aL]) (n := 4) (Nat.le_of_ble_eq_true rfl)
  rw [lg_entry_eq]
  generalize (lg_sl ([.ref ax, .int v, .ref aL]) ++ List.replicate (4 - (lg_sl ([.ref ax, .int v, .ref aL])).length) Slot.unset).toArray = ls at hl ⊢
  have hl : lv_has ls 4 [(0, .ref ax), (1, .int v), (2, .ref aL)] := hl
  have hS : va_S (zA [ax, ao, aq, aL]) s.heap s.heap [] := va_S.rf
  have hDD : zD (zA [ax, ao, aq, aL]) [ax, ao, aq, aL] := ⟨hnd, fun _ h => h⟩
  refine lv_aload_n hx hb dL_tell_0 rfl (lv_at hl 2 rfl) ?_
  refine lv_iconst (v := 0) hx hb dL_tell_1 (by decide) ?_
  refine lv_aload_n hx hb dL_tell_2 rfl (lv_at hl 0 rfl) ?_
  refine lv_iload_n hx hb dL_tell_3 rfl (lv_at hl 1 rfl) ?_
  refine zwx_i (w1 := fun u : Int32 × Int32 => [(ax, .inr (2, [.ref a0, .ref a1, .ref ae, .ref aw, .int (nI k), .int u.1, .int u.2, .int wn, .int (cnt + 1)])), (ao, .inr (1, [.long (lN own), .int lo])), (aq, .inr (1, [.long (lN oth), .int lq]))]) (al := [ax, ao, aq]) (vx_runV (As := [.int v]) (rest := [.int 0, .ref aL]) ⟨hx, hb, hml, hown, hts⟩ (c_X5_tell l hl0 dC dI cyI cyJ tb ax a0 a1 ae aw ao aq mk wn cnt lo lq k tn own oth mm hsd hO hQ hmk hmm v (z_nd hnd [0, 1, 2] (by decide) rfl)) (cwV 1 hts gL_tell_X5_tell rfl rfl rfl (by decide +kernel) ⟨Nat.le_of_ble_eq_true rfl, Nat.le_of_ble_eq_true rfl⟩) (zPc_V (ci := 2) (q0 := 0) zB_G hP hK rfl rfl [0, 1, 2] rfl (zG_at hX.1 hS (zA_pl [0, 1, 2] rfl))) rfl rfl hl.1 rfl (lv_room (Nat.le_of_ble_eq_true rfl)) dL_tell_4 ⟨Nat.le_of_ble_eq_true rfl, Nat.le_of_ble_eq_true rfl⟩) hP hDD hS [0, 1, 2] rfl (fun _ => rfl) (fun E ce q9 H locs hE hP hS hce hcv hcl => ?_) (fun r9 u H locs hw hP hS => ?_)
  · skip
    have hP : va_P (dC, dI) vwCl [(ax, .inr (2, [.ref a0, .ref a1, .ref ae, .ref aw, .int (nI k), .int (nI tn), .int mk, .int wn, .int cnt])), (ao, .inr (1, [.long (lN own), .int lo])), (aq, .inr (1, [.long (lN oth), .int lq])), (aL, .inl (cyJ, 1, .inr (.inl oF)))] H := hP
    rcases hE with ⟨rfl, hE⟩ | ⟨rfl, hE⟩
    · skip
      refine vx_catch (name := zIA) hown [] ⟨0, 9, 12, 13⟩ [⟨0, 9, 15, 19⟩] hex (fun z hz => by cases hz) (by decide) (by decide) (hts (.classLink RL 13 "java/lang/IllegalArgumentException") (List.mem_of_getElem? (i := 1) rfl)) (va_Nw.use rfl hX.1.2.2.2.2.2.2.1) hce hcv hcl ?_
      refine lv_astore_n (lv' := [(3, .ref q9), (0, .ref ax), (1, .int v), (2, .ref aL)]) hx hb dL_tell_12 rfl hl (by decide) rfl (fun ls hl => ?_)
      refine lv_iconst (v := 1) hx hb dL_tell_13 (by decide) ?_
      refine vx_ret (mc := 2) (ms := 12) ?_
      refine W.widen (k := 2) (n := 12) (Nat.le_of_ble_eq_true rfl) (Nat.le_of_ble_eq_true rfl) ?_
      exact W.iret (v := 1) hx hb hr (fun t ht hW => ⟨⟨_, (none, oF), rfl, Or.inr ⟨rfl, Or.inl ⟨rfl, hE⟩⟩, zh ht hP⟩, hS.F ht⟩) hS.2.2 dL_tell_14
    · skip
      refine vx_catch (name := zIS) hown [⟨0, 9, 12, 13⟩] ⟨0, 9, 15, 19⟩ [] hex (fun z hz => by cases List.mem_singleton.mp hz; exact Or.inr ⟨by decide, zIA, (hts (.classLink RL 13 "java/lang/IllegalArgumentException") (List.mem_of_getElem? (i := 1) rfl)), hX.2⟩) (by decide) (by decide) (hts (.classLink RL 19 "java/lang/IllegalStateException") (List.mem_of_getElem? (i := 2) rfl)) (va_Nw.use rfl hX.1.2.2.2.2.2.2.2) hce hcv hcl ?_
      refine lv_astore_n (lv' := [(3, .ref q9), (0, .ref ax), (1, .int v), (2, .ref aL)]) hx hb dL_tell_15 rfl hl (by decide) rfl (fun ls hl => ?_)
      refine lv_iconst (v := 2) hx hb dL_tell_16 (by decide) ?_
      refine vx_ret (mc := 2) (ms := 12) ?_
      refine W.widen (k := 2) (n := 12) (Nat.le_of_ble_eq_true rfl) (Nat.le_of_ble_eq_true rfl) ?_
      exact W.iret (v := 2) hx hb hr (fun t ht hW => ⟨⟨_, (none, oF), rfl, Or.inr ⟨rfl, Or.inr ⟨rfl, hE⟩⟩, zh ht hP⟩, hS.F ht⟩) hS.2.2 dL_tell_17
  · skip
    have hP : va_P (dC, dI) vwCl [(ax, .inr (2, [.ref a0, .ref a1, .ref ae, .ref aw, .int (nI k), .int u.1, .int u.2, .int wn, .int (cnt + 1)])), (ao, .inr (1, [.long (lN own), .int lo])), (aq, .inr (1, [.long (lN oth), .int lq])), (aL, .inl (cyJ, 1, .inr (.inl oF)))] H := hP
    refine lv_i2l (v := (r9 : Int32).toInt64) hx hb dL_tell_7 rfl ?_
    refine zi_last hx hb hK hP hDD hS 3 1 rfl rfl (j := 0) rfl (by omega) (by decide) dL_tell_8 (fun H locs hP hS => ?_)
    have hP : va_P (dC, dI) vwCl [(ax, .inr (2, [.ref a0, .ref a1, .ref ae, .ref aw, .int (nI k), .int u.1, .int u.2, .int wn, .int (cnt + 1)])), (ao, .inr (1, [.long (lN own), .int lo])), (aq, .inr (1, [.long (lN oth), .int lq])), (aL, .inl (cyJ, 1, .inr (.inl (vp_updL oF 0 ((r9 : Int32).toInt64)))))] H := hP
    refine lv_goto (tgt := 18) hx hb dL_tell_9 (by decide) ?_
    refine lv_iconst (v := 0) hx hb dL_tell_18 (by decide) ?_
    refine vx_ret (mc := 2) (ms := 12) ?_
    refine W.widen (k := 2) (n := 12) (Nat.le_of_ble_eq_true rfl) (Nat.le_of_ble_eq_true rfl) ?_
    exact W.iret (v := 0) hx hb hr (fun t ht hW => ⟨⟨_, (some u, (vp_updL oF 0 ((r9 : Int32).toInt64))), rfl, Or.inl ⟨u, r9, rfl, rfl, hw, (show (vp_updL oF 0 ((r9 : Int32).toInt64)) 0 = (r9 : Int32).toInt64 from if_pos rfl)⟩, zh ht hP⟩, hS.F ht⟩) hS.2.2 dL_tell_19

set_option maxHeartbeats 4000000 in
set_option maxRecDepth 100000 in
theorem c_L_move (l : Launch) (hl0 : l.stackTraces = false) (dC : Nat → ClassId) (dI : Nat → Nat → Nat) (cyI cyJ : ClassId) (tb ax a0 a1 ae aw ao aq : Nat) (mk wn cnt lo lq : Int32) (k tn own oth mm : Nat) (hsd : zSd tn a0 a1 ao aq) (hO : zok k own) (hQ : zok k oth) (hmk : zmk mk mm) (hmm : mm ≤ 4) (v : Int32) (aL : Nat) (oF : Nat → Int64) (hnd : [ax, ao, aq, aL].Nodup) : vx_Met l yL_move wsL_move ({ frames := 8, cells := 2, slots := 12, locals := 136 }) (zPc [.ref ax, .int v, .ref aL] (dC, dI) vwCl [(cyI, .int), (cyJ, .long)] [(ax, .inr (2, [.ref a0, .ref a1, .ref ae, .ref aw, .int (nI k), .int (nI tn), .int mk, .int wn, .int cnt])), (ao, .inr (1, [.long (lN own), .int lo])), (aq, .inr (1, [.long (lN oth), .int lq])), (aL, .inl (cyJ, 1, .inr (.inl oF)))] (fun U => zH tb (zA [ax, ao, aq, aL]) U U.heap)) (va_Qi (fun (r : Int32) (u : Option (Nat × Int32 × Int32 × Nat × Int32) × (Nat → Int64)) => (∃ (x : Nat × Int32 × Int32 × Nat × Int32) (r9 : Int32), u.1 = some x ∧ r = 0 ∧ (fun (r : Int32) (u : Nat × Int32 × Int32 × Nat × Int32) => u.1 ≤ 14 ∧ v = nI u.1 ∧ zcm own oth u.1 mm = true ∧ r = nI (u.1 + mm) ∧ u.2.1 = (if zros (u.1 + mm) = true then nI tn else nI (1 - tn)) ∧ u.2.2.1 = (if zhome (zsh own u.1 (u.1 + mm)) = true then nI tn else wn) ∧ u.2.2.2.1 = (if ztk oth (u.1 + mm) = true then zsh oth (u.1 + mm) 0 else oth) ∧ u.2.2.2.2 = (if ztk oth (u.1 + mm) = true then lq + 1 else lq)) r9 x ∧ u.2 0 = r9.toInt64) ∨ (u.1 = none ∧ ((r = 1 ∧ ¬ (0 ≤ v ∧ v ≤ 14)) ∨ (r = 2 ∧ ∃ fr, fr ≤ 14 ∧ v = nI fr ∧ zcm own oth fr mm = false)))) (fun (u : Option (Nat × Int32 × Int32 × Nat × Int32) × (Nat → Int64)) t => va_P (dC, dI) vwCl (zOp u.1 (fun u => [(ax, .inr (2, [.ref a0, .ref a1, .ref ae, .ref aw, .int (nI k), .int u.2.1, .int (-1), .int u.2.2.1, .int cnt])), (ao, .inr (1, [.long (lN (zsh own u.1 (u.1 + mm))), .int lo])), (aq, .inr (1, [.long (lN u.2.2.2.1), .int u.2.2.2.2]))]) [(ax, .inr (2, [.ref a0, .ref a1, .ref ae, .ref aw, .int (nI k), .int (nI tn), .int mk, .int wn, .int cnt])), (ao, .inr (1, [.long (lN own), .int lo])), (aq, .inr (1, [.long (lN oth), .int lq]))] ++ [(aL, .inl (cyJ, 1, .inr (.inl u.2)))]) t.heap) (zA [ax, ao, aq, aL])) (vx_X (fun (_ : Unit) => False) (fun (_ : String) _ _ => True) zF) 2 12 (zA [ax, ao, aq, aL]) := by
  refine vx_ofWH (cc := cL_move) (maxL := 4) (ret := (some .int)) (hh := [(0, 9, 12, 13), (0, 9, 15, 19)]) (by decide) rfl ?_
  intro p e s m args below meth c s₁ B hml hv
  obtain ⟨rfl, hP, hK, hX⟩ := hv
  have hx := B.exec
  have hb := B.bytes
  have hr := B.returns
  have hts := atoms_spec (ws := wsL_move) B.pre
  have hown : s.vm.findClass RL = some m.cls := findClass_of_methodNamed B.named
  have hlocks := B.notSynchronized
  have hex : c.exceptionTable.toList = [⟨0, 9, 12, 13⟩, ⟨0, 9, 15, 19⟩] := (vx_table (x := yL_move) B (hts _ List.mem_cons_self)).trans rfl
  have hl := lv_entry ([.ref ax, .int v, .ref aL]) (n := 4) (Nat.le_of_ble_eq_true rfl)
  rw [lg_entry_eq]
  generalize (lg_sl ([.ref ax, .int v, .ref aL]) ++ List.replicate (4 - (lg_sl ([.ref ax, .int v, .ref aL])).length) Slot.unset).toArray = ls at hl ⊢
  have hl : lv_has ls 4 [(0, .ref ax), (1, .int v), (2, .ref aL)] := hl
  have hS : va_S (zA [ax, ao, aq, aL]) s.heap s.heap [] := va_S.rf
  have hDD : zD (zA [ax, ao, aq, aL]) [ax, ao, aq, aL] := ⟨hnd, fun _ h => h⟩
  refine lv_aload_n hx hb dL_move_0 rfl (lv_at hl 2 rfl) ?_
  refine lv_iconst (v := 0) hx hb dL_move_1 (by decide) ?_
  refine lv_aload_n hx hb dL_move_2 rfl (lv_at hl 0 rfl) ?_
  refine lv_iload_n hx hb dL_move_3 rfl (lv_at hl 1 rfl) ?_
  refine zwx_i (w1 := fun u : Nat × Int32 × Int32 × Nat × Int32 => [(ax, .inr (2, [.ref a0, .ref a1, .ref ae, .ref aw, .int (nI k), .int u.2.1, .int (-1), .int u.2.2.1, .int cnt])), (ao, .inr (1, [.long (lN (zsh own u.1 (u.1 + mm))), .int lo])), (aq, .inr (1, [.long (lN u.2.2.2.1), .int u.2.2.2.2]))]) (al := [ax, ao, aq]) (vx_runV (As := [.int v]) (rest := [.int 0, .ref aL]) ⟨hx, hb, hml, hown, hts⟩ (c_X5_move l hl0 dC dI cyI cyJ tb ax a0 a1 ae aw ao aq mk wn cnt lo lq k tn own oth mm hsd hO hQ hmk hmm v (z_nd hnd [0, 1, 2] (by decide) rfl)) (cwV 1 hts gL_move_X5_move rfl rfl rfl (by decide +kernel) ⟨Nat.le_of_ble_eq_true rfl, Nat.le_of_ble_eq_true rfl⟩) (zPc_V (ci := 2) (q0 := 0) zB_G hP hK rfl rfl [0, 1, 2] rfl (zG_at hX.1 hS (zA_pl [0, 1, 2] rfl))) rfl rfl hl.1 rfl (lv_room (Nat.le_of_ble_eq_true rfl)) dL_move_4 ⟨Nat.le_of_ble_eq_true rfl, Nat.le_of_ble_eq_true rfl⟩) hP hDD hS [0, 1, 2] rfl (fun _ => rfl) (fun E ce q9 H locs hE hP hS hce hcv hcl => ?_) (fun r9 u H locs hw hP hS => ?_)
  · skip
    have hP : va_P (dC, dI) vwCl [(ax, .inr (2, [.ref a0, .ref a1, .ref ae, .ref aw, .int (nI k), .int (nI tn), .int mk, .int wn, .int cnt])), (ao, .inr (1, [.long (lN own), .int lo])), (aq, .inr (1, [.long (lN oth), .int lq])), (aL, .inl (cyJ, 1, .inr (.inl oF)))] H := hP
    rcases hE with ⟨rfl, hE⟩ | ⟨rfl, hE⟩
    · skip
      refine vx_catch (name := zIA) hown [] ⟨0, 9, 12, 13⟩ [⟨0, 9, 15, 19⟩] hex (fun z hz => by cases hz) (by decide) (by decide) (hts (.classLink RL 13 "java/lang/IllegalArgumentException") (List.mem_of_getElem? (i := 1) rfl)) (va_Nw.use rfl hX.1.2.2.2.2.2.2.1) hce hcv hcl ?_
      refine lv_astore_n (lv' := [(3, .ref q9), (0, .ref ax), (1, .int v), (2, .ref aL)]) hx hb dL_move_12 rfl hl (by decide) rfl (fun ls hl => ?_)
      refine lv_iconst (v := 1) hx hb dL_move_13 (by decide) ?_
      refine vx_ret (mc := 2) (ms := 12) ?_
      refine W.widen (k := 2) (n := 12) (Nat.le_of_ble_eq_true rfl) (Nat.le_of_ble_eq_true rfl) ?_
      exact W.iret (v := 1) hx hb hr (fun t ht hW => ⟨⟨_, (none, oF), rfl, Or.inr ⟨rfl, Or.inl ⟨rfl, hE⟩⟩, zh ht hP⟩, hS.F ht⟩) hS.2.2 dL_move_14
    · skip
      refine vx_catch (name := zIS) hown [⟨0, 9, 12, 13⟩] ⟨0, 9, 15, 19⟩ [] hex (fun z hz => by cases List.mem_singleton.mp hz; exact Or.inr ⟨by decide, zIA, (hts (.classLink RL 13 "java/lang/IllegalArgumentException") (List.mem_of_getElem? (i := 1) rfl)), hX.2⟩) (by decide) (by decide) (hts (.classLink RL 19 "java/lang/IllegalStateException") (List.mem_of_getElem? (i := 2) rfl)) (va_Nw.use rfl hX.1.2.2.2.2.2.2.2) hce hcv hcl ?_
      refine lv_astore_n (lv' := [(3, .ref q9), (0, .ref ax), (1, .int v), (2, .ref aL)]) hx hb dL_move_15 rfl hl (by decide) rfl (fun ls hl => ?_)
      refine lv_iconst (v := 2) hx hb dL_move_16 (by decide) ?_
      refine vx_ret (mc := 2) (ms := 12) ?_
      refine W.widen (k := 2) (n := 12) (Nat.le_of_ble_eq_true rfl) (Nat.le_of_ble_eq_true rfl) ?_
      exact W.iret (v := 2) hx hb hr (fun t ht hW => ⟨⟨_, (none, oF), rfl, Or.inr ⟨rfl, Or.inr ⟨rfl, hE⟩⟩, zh ht hP⟩, hS.F ht⟩) hS.2.2 dL_move_17
  · skip
    have hP : va_P (dC, dI) vwCl [(ax, .inr (2, [.ref a0, .ref a1, .ref ae, .ref aw, .int (nI k), .int u.2.1, .int (-1), .int u.2.2.1, .int cnt])), (ao, .inr (1, [.long (lN (zsh own u.1 (u.1 + mm))), .int lo])), (aq, .inr (1, [.long (lN u.2.2.2.1), .int u.2.2.2.2])), (aL, .inl (cyJ, 1, .inr (.inl oF)))] H := hP
    refine lv_i2l (v := (r9 : Int32).toInt64) hx hb dL_move_7 rfl ?_
    refine zi_last hx hb hK hP hDD hS 3 1 rfl rfl (j := 0) rfl (by omega) (by decide) dL_move_8 (fun H locs hP hS => ?_)
    have hP : va_P (dC, dI) vwCl [(ax, .inr (2, [.ref a0, .ref a1, .ref ae, .ref aw, .int (nI k), .int u.2.1, .int (-1), .int u.2.2.1, .int cnt])), (ao, .inr (1, [.long (lN (zsh own u.1 (u.1 + mm))), .int lo])), (aq, .inr (1, [.long (lN u.2.2.2.1), .int u.2.2.2.2])), (aL, .inl (cyJ, 1, .inr (.inl (vp_updL oF 0 ((r9 : Int32).toInt64)))))] H := hP
    refine lv_goto (tgt := 18) hx hb dL_move_9 (by decide) ?_
    refine lv_iconst (v := 0) hx hb dL_move_18 (by decide) ?_
    refine vx_ret (mc := 2) (ms := 12) ?_
    refine W.widen (k := 2) (n := 12) (Nat.le_of_ble_eq_true rfl) (Nat.le_of_ble_eq_true rfl) ?_
    exact W.iret (v := 0) hx hb hr (fun t ht hW => ⟨⟨_, (some u, (vp_updL oF 0 ((r9 : Int32).toInt64))), rfl, Or.inl ⟨u, r9, rfl, rfl, hw, (show (vp_updL oF 0 ((r9 : Int32).toInt64)) 0 = (r9 : Int32).toInt64 from if_pos rfl)⟩, zh ht hP⟩, hS.F ht⟩) hS.2.2 dL_move_19

set_option maxHeartbeats 4000000 in
set_option maxRecDepth 100000 in
theorem c_L_at (l : Launch) (hl0 : l.stackTraces = false) (dC : Nat → ClassId) (dI : Nat → Nat → Nat) (cyI cyJ : ClassId) (tb ax a0 a1 ae aw ao aq : Nat) (mk wn cnt lo lq : Int32) (k tn own oth mm : Nat) (hsd : zSd tn a0 a1 ao aq) (hO : zok k own) (hQ : zok k oth) (hmk : zmk mk mm) (hmm : mm ≤ 4) (v w9 : Int32) (aL : Nat) (oF : Nat → Int64) (hnd : [aL].Nodup) : vx_Met l yL_at wsL_at ({ frames := 8, cells := 2, slots := 12, locals := 134 }) (zPc [.ref ax, .int v, .int w9, .ref aL] (dC, dI) vwCl [(cyI, .int), (cyJ, .long)] [(ax, .inr (2, [.ref a0, .ref a1, .ref ae, .ref aw, .int (nI k), .int (nI tn), .int mk, .int wn, .int cnt])), (ao, .inr (1, [.long (lN own), .int lo])), (aq, .inr (1, [.long (lN oth), .int lq])), (aL, .inl (cyJ, 1, .inr (.inl oF)))] (fun U => zH tb (zA [aL]) U U.heap)) (va_Qi (fun (r : Int32) (u : Nat → Int64) => (∃ r9 : Int32, r = 0 ∧ (fun (r : Int32) (_ : Unit) => ∃ sN pN : Nat, sN ≤ 1 ∧ pN ≤ 15 ∧ v = nI sN ∧ w9 = nI pN ∧ r = nI (dg (if sN = tn then own else oth) pN)) r9 () ∧ u 0 = r9.toInt64) ∨ (r = 1 ∧ ¬ ((0 ≤ v ∧ v ≤ 1) ∧ (0 ≤ w9 ∧ w9 ≤ 15)))) (fun (u : Nat → Int64) t => va_P (dC, dI) vwCl ([(aL, .inl (cyJ, 1, .inr (.inl u)))]) t.heap) (zA [aL])) (vx_X (fun (_ : Unit) => False) (fun (_ : String) _ _ => True) zF) 2 12 (zA [aL]) := by
  refine vx_ofWH (cc := cL_at) (maxL := 5) (ret := (some .int)) (hh := [(0, 10, 13, 13)]) (by decide) rfl ?_
  intro p e s m args below meth c s₁ B hml hv
  obtain ⟨rfl, hP, hK, hX⟩ := hv
  have hx := B.exec
  have hb := B.bytes
  have hr := B.returns
  have hts := atoms_spec (ws := wsL_at) B.pre
  have hown : s.vm.findClass RL = some m.cls := findClass_of_methodNamed B.named
  have hlocks := B.notSynchronized
  have hex : c.exceptionTable.toList = [⟨0, 10, 13, 13⟩] := (vx_table (x := yL_at) B (hts _ List.mem_cons_self)).trans rfl
  have hl := lv_entry ([.ref ax, .int v, .int w9, .ref aL]) (n := 5) (Nat.le_of_ble_eq_true rfl)
  rw [lg_entry_eq]
  generalize (lg_sl ([.ref ax, .int v, .int w9, .ref aL]) ++ List.replicate (5 - (lg_sl ([.ref ax, .int v, .int w9, .ref aL])).length) Slot.unset).toArray = ls at hl ⊢
  have hl : lv_has ls 5 [(0, .ref ax), (1, .int v), (2, .int w9), (3, .ref aL)] := hl
  have hS : va_S (zA [aL]) s.heap s.heap [] := va_S.rf
  have hDD : zD (zA [aL]) [aL] := ⟨hnd, fun _ h => h⟩
  refine lv_aload_n hx hb dL_at_0 rfl (lv_at hl 3 rfl) ?_
  refine lv_iconst (v := 0) hx hb dL_at_1 (by decide) ?_
  refine lv_aload_n hx hb dL_at_2 rfl (lv_at hl 0 rfl) ?_
  refine lv_iload_n hx hb dL_at_3 rfl (lv_at hl 1 rfl) ?_
  refine lv_iload_n hx hb dL_at_4 rfl (lv_at hl 2 rfl) ?_
  refine zwf_i (vx_runV (As := [.int v, .int w9]) (rest := [.int 0, .ref aL]) ⟨hx, hb, hml, hown, hts⟩ (c_X5_at l hl0 dC dI cyI cyJ tb ax a0 a1 ae aw ao aq mk wn cnt lo lq k tn own oth mm hsd hO hQ hmk hmm v w9) (cwV 2 hts gL_at_X5_at rfl rfl rfl (by decide +kernel) ⟨Nat.le_of_ble_eq_true rfl, Nat.le_of_ble_eq_true rfl⟩) (zPc_V (ci := 2) (q0 := 0) zB_G hP hK rfl rfl [0, 1, 2] rfl (zG_at hX.1 hS zF_A)) rfl rfl hl.1 rfl (lv_room (Nat.le_of_ble_eq_true rfl)) dL_at_5 ⟨Nat.le_of_ble_eq_true rfl, Nat.le_of_ble_eq_true rfl⟩) hP hS (fun E ce q9 H locs hE hP hS hce hcv hcl => ?_) (fun r9 H locs hw hP hS => ?_)
  · skip
    have hP : va_P (dC, dI) vwCl [(ax, .inr (2, [.ref a0, .ref a1, .ref ae, .ref aw, .int (nI k), .int (nI tn), .int mk, .int wn, .int cnt])), (ao, .inr (1, [.long (lN own), .int lo])), (aq, .inr (1, [.long (lN oth), .int lq])), (aL, .inl (cyJ, 1, .inr (.inl oF)))] H := hP
    obtain ⟨rfl, hE⟩ := hE
    refine vx_catch (name := zIA) hown [] ⟨0, 10, 13, 13⟩ [] hex (fun z hz => by cases hz) (by decide) (by decide) (hts (.classLink RL 13 "java/lang/IllegalArgumentException") (List.mem_of_getElem? (i := 1) rfl)) (va_Nw.use rfl hX.1.2.2.2.2.2.2.1) hce hcv hcl ?_
    refine lv_astore (lv' := [(4, .ref q9), (0, .ref ax), (1, .int v), (2, .int w9), (3, .ref aL)]) hx hb dL_at_13 hl (by decide) rfl (fun ls hl => ?_)
    refine lv_iconst (v := 1) hx hb dL_at_15 (by decide) ?_
    refine vx_ret (mc := 2) (ms := 12) ?_
    refine W.widen (k := 2) (n := 12) (Nat.le_of_ble_eq_true rfl) (Nat.le_of_ble_eq_true rfl) ?_
    exact W.iret (v := 1) hx hb hr (fun t ht hW => ⟨⟨_, oF, rfl, Or.inr ⟨rfl, hE⟩, zh ht (hP.sub [3] rfl)⟩, hS.F ht⟩) hS.2.2 dL_at_16
  · skip
    have hP : va_P (dC, dI) vwCl [(ax, .inr (2, [.ref a0, .ref a1, .ref ae, .ref aw, .int (nI k), .int (nI tn), .int mk, .int wn, .int cnt])), (ao, .inr (1, [.long (lN own), .int lo])), (aq, .inr (1, [.long (lN oth), .int lq])), (aL, .inl (cyJ, 1, .inr (.inl oF)))] H := hP
    refine lv_i2l (v := (r9 : Int32).toInt64) hx hb dL_at_8 rfl ?_
    have hP : va_P (dC, dI) vwCl [(aL, .inl (cyJ, 1, .inr (.inl oF)))] H := hP.sub [3] rfl
    refine zi_last hx hb hK hP hDD hS 0 1 rfl rfl (j := 0) rfl (by omega) (by decide) dL_at_9 (fun H locs hP hS => ?_)
    have hP : va_P (dC, dI) vwCl [(aL, .inl (cyJ, 1, .inr (.inl (vp_updL oF 0 ((r9 : Int32).toInt64)))))] H := hP
    refine lv_goto (tgt := 17) hx hb dL_at_10 (by decide) ?_
    refine lv_iconst (v := 0) hx hb dL_at_17 (by decide) ?_
    refine vx_ret (mc := 2) (ms := 12) ?_
    refine W.widen (k := 2) (n := 12) (Nat.le_of_ble_eq_true rfl) (Nat.le_of_ble_eq_true rfl) ?_
    exact W.iret (v := 0) hx hb hr (fun t ht hW => ⟨⟨_, (vp_updL oF 0 ((r9 : Int32).toInt64)), rfl, Or.inl ⟨r9, rfl, hw, (show (vp_updL oF 0 ((r9 : Int32).toInt64)) 0 = (r9 : Int32).toInt64 from if_pos rfl)⟩, zh ht hP⟩, hS.F ht⟩) hS.2.2 dL_at_18

set_option maxHeartbeats 4000000 in
set_option maxRecDepth 100000 in
theorem c_L_progress (l : Launch) (hl0 : l.stackTraces = false) (dC : Nat → ClassId) (dI : Nat → Nat → Nat) (cyI cyJ : ClassId) (tb ax a0 a1 ae aw ao aq : Nat) (mk wn cnt lo lq : Int32) (k tn own oth mm : Nat) (hsd : zSd tn a0 a1 ao aq) (hO : zok k own) (hQ : zok k oth) (hmk : zmk mk mm) (hmm : mm ≤ 4) (v : Int32) (aL : Nat) (oF : Nat → Int64) (hnd : [aL].Nodup) : vx_Met l yL_progress wsL_progress ({ frames := 8, cells := 1, slots := 6, locals := 133 }) (zPc [.ref ax, .int v, .ref aL] (dC, dI) vwCl [(cyI, .int), (cyJ, .long)] [(ax, .inr (2, [.ref a0, .ref a1, .ref ae, .ref aw, .int (nI k), .int (nI tn), .int mk, .int wn, .int cnt])), (ao, .inr (1, [.long (lN own), .int lo])), (aq, .inr (1, [.long (lN oth), .int lq])), (aL, .inl (cyJ, 1, .inr (.inl oF)))] (fun U => zH tb (zA [aL]) U U.heap)) (va_Qi (fun (r : Int32) (u : Nat → Int64) => (∃ r9 : Int32, r = 0 ∧ (fun (r : Int32) (_ : Unit) => ∃ sN : Nat, sN ≤ 1 ∧ v = nI sN ∧ r = nI (psum (if sN = tn then own else oth) 16)) r9 () ∧ u 0 = r9.toInt64) ∨ (r = 1 ∧ ¬ (0 ≤ v ∧ v ≤ 1))) (fun (u : Nat → Int64) t => va_P (dC, dI) vwCl ([(aL, .inl (cyJ, 1, .inr (.inl u)))]) t.heap) (zA [aL])) (vx_X (fun (_ : Unit) => False) (fun (_ : String) _ _ => True) zF) 1 6 (zA [aL]) := by
  refine vx_ofWH (cc := cL_progress) (maxL := 4) (ret := (some .int)) (hh := [(0, 9, 12, 13)]) (by decide) rfl ?_
  intro p e s m args below meth c s₁ B hml hv
  obtain ⟨rfl, hP, hK, hX⟩ := hv
  have hx := B.exec
  have hb := B.bytes
  have hr := B.returns
  have hts := atoms_spec (ws := wsL_progress) B.pre
  have hown : s.vm.findClass RL = some m.cls := findClass_of_methodNamed B.named
  have hlocks := B.notSynchronized
  have hex : c.exceptionTable.toList = [⟨0, 9, 12, 13⟩] := (vx_table (x := yL_progress) B (hts _ List.mem_cons_self)).trans rfl
  have hl := lv_entry ([.ref ax, .int v, .ref aL]) (n := 4) (Nat.le_of_ble_eq_true rfl)
  rw [lg_entry_eq]
  generalize (lg_sl ([.ref ax, .int v, .ref aL]) ++ List.replicate (4 - (lg_sl ([.ref ax, .int v, .ref aL])).length) Slot.unset).toArray = ls at hl ⊢
  have hl : lv_has ls 4 [(0, .ref ax), (1, .int v), (2, .ref aL)] := hl
  have hS : va_S (zA [aL]) s.heap s.heap [] := va_S.rf
  have hDD : zD (zA [aL]) [aL] := ⟨hnd, fun _ h => h⟩
  refine lv_aload_n hx hb dL_progress_0 rfl (lv_at hl 2 rfl) ?_
  refine lv_iconst (v := 0) hx hb dL_progress_1 (by decide) ?_
  refine lv_aload_n hx hb dL_progress_2 rfl (lv_at hl 0 rfl) ?_
  refine lv_iload_n hx hb dL_progress_3 rfl (lv_at hl 1 rfl) ?_
  refine zwf_i (vx_runV (As := [.int v]) (rest := [.int 0, .ref aL]) ⟨hx, hb, hml, hown, hts⟩ (c_X5_progress l hl0 dC dI cyI cyJ tb ax a0 a1 ae aw ao aq mk wn cnt lo lq k tn own oth mm hsd hO hQ hmk hmm v) (cwV 1 hts gL_progress_X5_progress rfl rfl rfl (by decide +kernel) ⟨Nat.le_of_ble_eq_true rfl, Nat.le_of_ble_eq_true rfl⟩) (zPc_V (ci := 2) (q0 := 0) zB_G hP hK rfl rfl [0, 1, 2] rfl (zG_at hX.1 hS zF_A)) rfl rfl hl.1 rfl (lv_room (Nat.le_of_ble_eq_true rfl)) dL_progress_4 ⟨Nat.le_of_ble_eq_true rfl, Nat.le_of_ble_eq_true rfl⟩) hP hS (fun E ce q9 H locs hE hP hS hce hcv hcl => ?_) (fun r9 H locs hw hP hS => ?_)
  · skip
    have hP : va_P (dC, dI) vwCl [(ax, .inr (2, [.ref a0, .ref a1, .ref ae, .ref aw, .int (nI k), .int (nI tn), .int mk, .int wn, .int cnt])), (ao, .inr (1, [.long (lN own), .int lo])), (aq, .inr (1, [.long (lN oth), .int lq])), (aL, .inl (cyJ, 1, .inr (.inl oF)))] H := hP
    obtain ⟨rfl, hE⟩ := hE
    refine vx_catch (name := zIA) hown [] ⟨0, 9, 12, 13⟩ [] hex (fun z hz => by cases hz) (by decide) (by decide) (hts (.classLink RL 13 "java/lang/IllegalArgumentException") (List.mem_of_getElem? (i := 1) rfl)) (va_Nw.use rfl hX.1.2.2.2.2.2.2.1) hce hcv hcl ?_
    refine lv_astore_n (lv' := [(3, .ref q9), (0, .ref ax), (1, .int v), (2, .ref aL)]) hx hb dL_progress_12 rfl hl (by decide) rfl (fun ls hl => ?_)
    refine lv_iconst (v := 1) hx hb dL_progress_13 (by decide) ?_
    refine vx_ret (mc := 1) (ms := 6) ?_
    refine W.widen (k := 1) (n := 6) (Nat.le_of_ble_eq_true rfl) (Nat.le_of_ble_eq_true rfl) ?_
    exact W.iret (v := 1) hx hb hr (fun t ht hW => ⟨⟨_, oF, rfl, Or.inr ⟨rfl, hE⟩, zh ht (hP.sub [3] rfl)⟩, hS.F ht⟩) hS.2.2 dL_progress_14
  · skip
    have hP : va_P (dC, dI) vwCl [(ax, .inr (2, [.ref a0, .ref a1, .ref ae, .ref aw, .int (nI k), .int (nI tn), .int mk, .int wn, .int cnt])), (ao, .inr (1, [.long (lN own), .int lo])), (aq, .inr (1, [.long (lN oth), .int lq])), (aL, .inl (cyJ, 1, .inr (.inl oF)))] H := hP
    refine lv_i2l (v := (r9 : Int32).toInt64) hx hb dL_progress_7 rfl ?_
    have hP : va_P (dC, dI) vwCl [(aL, .inl (cyJ, 1, .inr (.inl oF)))] H := hP.sub [3] rfl
    refine zi_last hx hb hK hP hDD hS 0 1 rfl rfl (j := 0) rfl (by omega) (by decide) dL_progress_8 (fun H locs hP hS => ?_)
    have hP : va_P (dC, dI) vwCl [(aL, .inl (cyJ, 1, .inr (.inl (vp_updL oF 0 ((r9 : Int32).toInt64)))))] H := hP
    refine lv_goto (tgt := 15) hx hb dL_progress_9 (by decide) ?_
    refine lv_iconst (v := 0) hx hb dL_progress_15 (by decide) ?_
    refine vx_ret (mc := 1) (ms := 6) ?_
    refine W.widen (k := 1) (n := 6) (Nat.le_of_ble_eq_true rfl) (Nat.le_of_ble_eq_true rfl) ?_
    exact W.iret (v := 0) hx hb hr (fun t ht hW => ⟨⟨_, (vp_updL oF 0 ((r9 : Int32).toInt64)), rfl, Or.inl ⟨r9, rfl, hw, (show (vp_updL oF 0 ((r9 : Int32).toInt64)) 0 = (r9 : Int32).toInt64 from if_pos rfl)⟩, zh ht hP⟩, hS.F ht⟩) hS.2.2 dL_progress_16

set_option maxHeartbeats 4000000 in
set_option maxRecDepth 100000 in
theorem c_L_captured (l : Launch) (hl0 : l.stackTraces = false) (dC : Nat → ClassId) (dI : Nat → Nat → Nat) (cyI cyJ : ClassId) (tb ax a0 a1 ae aw ao aq : Nat) (mk wn cnt lo lq : Int32) (k tn own oth mm : Nat) (hsd : zSd tn a0 a1 ao aq) (hO : zok k own) (hQ : zok k oth) (hmk : zmk mk mm) (hmm : mm ≤ 4) (v : Int32) (aL : Nat) (oF : Nat → Int64) (hnd : [aL].Nodup) : vx_Met l yL_captured wsL_captured ({ frames := 8, cells := 1, slots := 6, locals := 133 }) (zPc [.ref ax, .int v, .ref aL] (dC, dI) vwCl [(cyI, .int), (cyJ, .long)] [(ax, .inr (2, [.ref a0, .ref a1, .ref ae, .ref aw, .int (nI k), .int (nI tn), .int mk, .int wn, .int cnt])), (ao, .inr (1, [.long (lN own), .int lo])), (aq, .inr (1, [.long (lN oth), .int lq])), (aL, .inl (cyJ, 1, .inr (.inl oF)))] (fun U => zH tb (zA [aL]) U U.heap)) (va_Qi (fun (r : Int32) (u : Nat → Int64) => (∃ r9 : Int32, r = 0 ∧ (fun (r : Int32) (_ : Unit) => ∃ sN : Nat, sN ≤ 1 ∧ v = nI sN ∧ r = (if sN = tn then lo else lq)) r9 () ∧ u 0 = r9.toInt64) ∨ (r = 1 ∧ ¬ (0 ≤ v ∧ v ≤ 1))) (fun (u : Nat → Int64) t => va_P (dC, dI) vwCl ([(aL, .inl (cyJ, 1, .inr (.inl u)))]) t.heap) (zA [aL])) (vx_X (fun (_ : Unit) => False) (fun (_ : String) _ _ => True) zF) 1 6 (zA [aL]) := by
  refine vx_ofWH (cc := cL_captured) (maxL := 4) (ret := (some .int)) (hh := [(0, 9, 12, 13)]) (by decide) rfl ?_
  intro p e s m args below meth c s₁ B hml hv
  obtain ⟨rfl, hP, hK, hX⟩ := hv
  have hx := B.exec
  have hb := B.bytes
  have hr := B.returns
  have hts := atoms_spec (ws := wsL_captured) B.pre
  have hown : s.vm.findClass RL = some m.cls := findClass_of_methodNamed B.named
  have hlocks := B.notSynchronized
  have hex : c.exceptionTable.toList = [⟨0, 9, 12, 13⟩] := (vx_table (x := yL_captured) B (hts _ List.mem_cons_self)).trans rfl
  have hl := lv_entry ([.ref ax, .int v, .ref aL]) (n := 4) (Nat.le_of_ble_eq_true rfl)
  rw [lg_entry_eq]
  generalize (lg_sl ([.ref ax, .int v, .ref aL]) ++ List.replicate (4 - (lg_sl ([.ref ax, .int v, .ref aL])).length) Slot.unset).toArray = ls at hl ⊢
  have hl : lv_has ls 4 [(0, .ref ax), (1, .int v), (2, .ref aL)] := hl
  have hS : va_S (zA [aL]) s.heap s.heap [] := va_S.rf
  have hDD : zD (zA [aL]) [aL] := ⟨hnd, fun _ h => h⟩
  refine lv_aload_n hx hb dL_captured_0 rfl (lv_at hl 2 rfl) ?_
  refine lv_iconst (v := 0) hx hb dL_captured_1 (by decide) ?_
  refine lv_aload_n hx hb dL_captured_2 rfl (lv_at hl 0 rfl) ?_
  refine lv_iload_n hx hb dL_captured_3 rfl (lv_at hl 1 rfl) ?_
  refine zwf_i (vx_runV (As := [.int v]) (rest := [.int 0, .ref aL]) ⟨hx, hb, hml, hown, hts⟩ (c_X5_captured l hl0 dC dI cyI cyJ tb ax a0 a1 ae aw ao aq mk wn cnt lo lq k tn own oth mm hsd hO hQ hmk hmm v) (cwV 1 hts gL_captured_X5_captured rfl rfl rfl (by decide +kernel) ⟨Nat.le_of_ble_eq_true rfl, Nat.le_of_ble_eq_true rfl⟩) (zPc_V (ci := 2) (q0 := 0) zB_G hP hK rfl rfl [0, 1, 2] rfl (zG_at hX.1 hS zF_A)) rfl rfl hl.1 rfl (lv_room (Nat.le_of_ble_eq_true rfl)) dL_captured_4 ⟨Nat.le_of_ble_eq_true rfl, Nat.le_of_ble_eq_true rfl⟩) hP hS (fun E ce q9 H locs hE hP hS hce hcv hcl => ?_) (fun r9 H locs hw hP hS => ?_)
  · skip
    have hP : va_P (dC, dI) vwCl [(ax, .inr (2, [.ref a0, .ref a1, .ref ae, .ref aw, .int (nI k), .int (nI tn), .int mk, .int wn, .int cnt])), (ao, .inr (1, [.long (lN own), .int lo])), (aq, .inr (1, [.long (lN oth), .int lq])), (aL, .inl (cyJ, 1, .inr (.inl oF)))] H := hP
    obtain ⟨rfl, hE⟩ := hE
    refine vx_catch (name := zIA) hown [] ⟨0, 9, 12, 13⟩ [] hex (fun z hz => by cases hz) (by decide) (by decide) (hts (.classLink RL 13 "java/lang/IllegalArgumentException") (List.mem_of_getElem? (i := 1) rfl)) (va_Nw.use rfl hX.1.2.2.2.2.2.2.1) hce hcv hcl ?_
    refine lv_astore_n (lv' := [(3, .ref q9), (0, .ref ax), (1, .int v), (2, .ref aL)]) hx hb dL_captured_12 rfl hl (by decide) rfl (fun ls hl => ?_)
    refine lv_iconst (v := 1) hx hb dL_captured_13 (by decide) ?_
    refine vx_ret (mc := 1) (ms := 6) ?_
    refine W.widen (k := 1) (n := 6) (Nat.le_of_ble_eq_true rfl) (Nat.le_of_ble_eq_true rfl) ?_
    exact W.iret (v := 1) hx hb hr (fun t ht hW => ⟨⟨_, oF, rfl, Or.inr ⟨rfl, hE⟩, zh ht (hP.sub [3] rfl)⟩, hS.F ht⟩) hS.2.2 dL_captured_14
  · skip
    have hP : va_P (dC, dI) vwCl [(ax, .inr (2, [.ref a0, .ref a1, .ref ae, .ref aw, .int (nI k), .int (nI tn), .int mk, .int wn, .int cnt])), (ao, .inr (1, [.long (lN own), .int lo])), (aq, .inr (1, [.long (lN oth), .int lq])), (aL, .inl (cyJ, 1, .inr (.inl oF)))] H := hP
    refine lv_i2l (v := (r9 : Int32).toInt64) hx hb dL_captured_7 rfl ?_
    have hP : va_P (dC, dI) vwCl [(aL, .inl (cyJ, 1, .inr (.inl oF)))] H := hP.sub [3] rfl
    refine zi_last hx hb hK hP hDD hS 0 1 rfl rfl (j := 0) rfl (by omega) (by decide) dL_captured_8 (fun H locs hP hS => ?_)
    have hP : va_P (dC, dI) vwCl [(aL, .inl (cyJ, 1, .inr (.inl (vp_updL oF 0 ((r9 : Int32).toInt64)))))] H := hP
    refine lv_goto (tgt := 15) hx hb dL_captured_9 (by decide) ?_
    refine lv_iconst (v := 0) hx hb dL_captured_15 (by decide) ?_
    refine vx_ret (mc := 1) (ms := 6) ?_
    refine W.widen (k := 1) (n := 6) (Nat.le_of_ble_eq_true rfl) (Nat.le_of_ble_eq_true rfl) ?_
    exact W.iret (v := 0) hx hb hr (fun t ht hW => ⟨⟨_, (vp_updL oF 0 ((r9 : Int32).toInt64)), rfl, Or.inl ⟨r9, rfl, hw, (show (vp_updL oF 0 ((r9 : Int32).toInt64)) 0 = (r9 : Int32).toInt64 from if_pos rfl)⟩, zh ht hP⟩, hS.F ht⟩) hS.2.2 dL_captured_16

set_option maxHeartbeats 4000000 in
set_option maxRecDepth 100000 in
theorem c_L_captures (l : Launch) (hl0 : l.stackTraces = false) (dC : Nat → ClassId) (dI : Nat → Nat → Nat) (cyI cyJ : ClassId) (tb ax a0 a1 ae aw ao aq : Nat) (mk wn cnt lo lq : Int32) (k tn own oth mm : Nat) (hsd : zSd tn a0 a1 ao aq) (hO : zok k own) (hQ : zok k oth) (hmk : zmk mk mm) (hmm : mm ≤ 4) (v : Int32) (aL : Nat) (oF : Nat → Int64) (hnd : [aL].Nodup) : vx_Met l yL_captures wsL_captures ({ frames := 8, cells := 1, slots := 6, locals := 133 }) (zPc [.ref ax, .int v, .ref aL] (dC, dI) vwCl [(cyI, .int), (cyJ, .long)] [(ax, .inr (2, [.ref a0, .ref a1, .ref ae, .ref aw, .int (nI k), .int (nI tn), .int mk, .int wn, .int cnt])), (ao, .inr (1, [.long (lN own), .int lo])), (aq, .inr (1, [.long (lN oth), .int lq])), (aL, .inl (cyJ, 1, .inr (.inl oF)))] (fun U => zH tb (zA [aL]) U U.heap)) (va_Qi (fun (r : Int32) (u : Nat → Int64) => (∃ r9 : Int32, r = 0 ∧ (fun (r : Int32) (_ : Unit) => ∃ fr, fr ≤ 14 ∧ v = nI fr ∧ r = bI (zcm own oth fr mm && ztk oth (fr + mm))) r9 () ∧ u 0 = (if r9 = 0 then 0 else 1)) ∨ (r = 1 ∧ ¬ (0 ≤ v ∧ v ≤ 14))) (fun (u : Nat → Int64) t => va_P (dC, dI) vwCl ([(aL, .inl (cyJ, 1, .inr (.inl u)))]) t.heap) (zA [aL])) (vx_X (fun (_ : Unit) => False) (fun (_ : String) _ _ => True) zF) 1 6 (zA [aL]) := by
  refine vx_ofWH (cc := cL_captures) (maxL := 4) (ret := (some .int)) (hh := [(0, 16, 19, 13)]) (by decide) rfl ?_
  intro p e s m args below meth c s₁ B hml hv
  obtain ⟨rfl, hP, hK, hX⟩ := hv
  have hx := B.exec
  have hb := B.bytes
  have hr := B.returns
  have hts := atoms_spec (ws := wsL_captures) B.pre
  have hown : s.vm.findClass RL = some m.cls := findClass_of_methodNamed B.named
  have hlocks := B.notSynchronized
  have hex : c.exceptionTable.toList = [⟨0, 16, 19, 13⟩] := (vx_table (x := yL_captures) B (hts _ List.mem_cons_self)).trans rfl
  have hl := lv_entry ([.ref ax, .int v, .ref aL]) (n := 4) (Nat.le_of_ble_eq_true rfl)
  rw [lg_entry_eq]
  generalize (lg_sl ([.ref ax, .int v, .ref aL]) ++ List.replicate (4 - (lg_sl ([.ref ax, .int v, .ref aL])).length) Slot.unset).toArray = ls at hl ⊢
  have hl : lv_has ls 4 [(0, .ref ax), (1, .int v), (2, .ref aL)] := hl
  have hS : va_S (zA [aL]) s.heap s.heap [] := va_S.rf
  have hDD : zD (zA [aL]) [aL] := ⟨hnd, fun _ h => h⟩
  refine lv_aload_n hx hb dL_captures_0 rfl (lv_at hl 2 rfl) ?_
  refine lv_iconst (v := 0) hx hb dL_captures_1 (by decide) ?_
  refine lv_aload_n hx hb dL_captures_2 rfl (lv_at hl 0 rfl) ?_
  refine lv_iload_n hx hb dL_captures_3 rfl (lv_at hl 1 rfl) ?_
  refine zwf_i (vx_runV (As := [.int v]) (rest := [.int 0, .ref aL]) ⟨hx, hb, hml, hown, hts⟩ (c_X5_captures l hl0 dC dI cyI cyJ tb ax a0 a1 ae aw ao aq mk wn cnt lo lq k tn own oth mm hsd hO hQ hmk hmm v) (cwV 1 hts gL_captures_X5_captures rfl rfl rfl (by decide +kernel) ⟨Nat.le_of_ble_eq_true rfl, Nat.le_of_ble_eq_true rfl⟩) (zPc_V (ci := 2) (q0 := 0) zB_G hP hK rfl rfl [0, 1, 2] rfl (zG_at hX.1 hS zF_A)) rfl rfl hl.1 rfl (lv_room (Nat.le_of_ble_eq_true rfl)) dL_captures_4 ⟨Nat.le_of_ble_eq_true rfl, Nat.le_of_ble_eq_true rfl⟩) hP hS (fun E ce q9 H locs hE hP hS hce hcv hcl => ?_) (fun r9 H locs hw hP hS => ?_)
  · skip
    have hP : va_P (dC, dI) vwCl [(ax, .inr (2, [.ref a0, .ref a1, .ref ae, .ref aw, .int (nI k), .int (nI tn), .int mk, .int wn, .int cnt])), (ao, .inr (1, [.long (lN own), .int lo])), (aq, .inr (1, [.long (lN oth), .int lq])), (aL, .inl (cyJ, 1, .inr (.inl oF)))] H := hP
    obtain ⟨rfl, hE⟩ := hE
    refine vx_catch (name := zIA) hown [] ⟨0, 16, 19, 13⟩ [] hex (fun z hz => by cases hz) (by decide) (by decide) (hts (.classLink RL 13 "java/lang/IllegalArgumentException") (List.mem_of_getElem? (i := 1) rfl)) (va_Nw.use rfl hX.1.2.2.2.2.2.2.1) hce hcv hcl ?_
    refine lv_astore_n (lv' := [(3, .ref q9), (0, .ref ax), (1, .int v), (2, .ref aL)]) hx hb dL_captures_19 rfl hl (by decide) rfl (fun ls hl => ?_)
    refine lv_iconst (v := 1) hx hb dL_captures_20 (by decide) ?_
    refine vx_ret (mc := 1) (ms := 6) ?_
    refine W.widen (k := 1) (n := 6) (Nat.le_of_ble_eq_true rfl) (Nat.le_of_ble_eq_true rfl) ?_
    exact W.iret (v := 1) hx hb hr (fun t ht hW => ⟨⟨_, oF, rfl, Or.inr ⟨rfl, hE⟩, zh ht (hP.sub [3] rfl)⟩, hS.F ht⟩) hS.2.2 dL_captures_21
  · skip
    have hP : va_P (dC, dI) vwCl [(ax, .inr (2, [.ref a0, .ref a1, .ref ae, .ref aw, .int (nI k), .int (nI tn), .int mk, .int wn, .int cnt])), (ao, .inr (1, [.long (lN own), .int lo])), (aq, .inr (1, [.long (lN oth), .int lq])), (aL, .inl (cyJ, 1, .inr (.inl oF)))] H := hP
    refine lv_if_eq (tgt := 14) hx hb dL_captures_7 (by decide) (fun c_7 => ?_) (fun c_7 => ?_)
    · skip
      refine lv_lconst (v := 0) hx hb dL_captures_14 (by decide) ?_
      have hP : va_P (dC, dI) vwCl [(aL, .inl (cyJ, 1, .inr (.inl oF)))] H := hP.sub [3] rfl
      refine zi_last hx hb hK hP hDD hS 0 1 rfl rfl (j := 0) rfl (by omega) (by decide) dL_captures_15 (fun H locs hP hS => ?_)
      have hP : va_P (dC, dI) vwCl [(aL, .inl (cyJ, 1, .inr (.inl (vp_updL oF 0 0))))] H := hP
      refine lv_goto (tgt := 22) hx hb dL_captures_16 (by decide) ?_
      refine lv_iconst (v := 0) hx hb dL_captures_22 (by decide) ?_
      refine vx_ret (mc := 1) (ms := 6) ?_
      refine W.widen (k := 1) (n := 6) (Nat.le_of_ble_eq_true rfl) (Nat.le_of_ble_eq_true rfl) ?_
      exact W.iret (v := 0) hx hb hr (fun t ht hW => ⟨⟨_, (vp_updL oF 0 0), rfl, Or.inl ⟨r9, rfl, hw, ((show (vp_updL oF 0 0) 0 = 0 from if_pos rfl).trans (if_pos c_7).symm)⟩, zh ht hP⟩, hS.F ht⟩) hS.2.2 dL_captures_23
    · skip
      refine lv_lconst (v := 1) hx hb dL_captures_10 (by decide) ?_
      refine lv_goto (tgt := 15) hx hb dL_captures_11 (by decide) ?_
      have hP : va_P (dC, dI) vwCl [(aL, .inl (cyJ, 1, .inr (.inl oF)))] H := hP.sub [3] rfl
      refine zi_last hx hb hK hP hDD hS 0 1 rfl rfl (j := 0) rfl (by omega) (by decide) dL_captures_15 (fun H locs hP hS => ?_)
      have hP : va_P (dC, dI) vwCl [(aL, .inl (cyJ, 1, .inr (.inl (vp_updL oF 0 1))))] H := hP
      refine lv_goto (tgt := 22) hx hb dL_captures_16 (by decide) ?_
      refine lv_iconst (v := 0) hx hb dL_captures_22 (by decide) ?_
      refine vx_ret (mc := 1) (ms := 6) ?_
      refine W.widen (k := 1) (n := 6) (Nat.le_of_ble_eq_true rfl) (Nat.le_of_ble_eq_true rfl) ?_
      exact W.iret (v := 0) hx hb hr (fun t ht hW => ⟨⟨_, (vp_updL oF 0 1), rfl, Or.inl ⟨r9, rfl, hw, ((show (vp_updL oF 0 1) 0 = 1 from if_pos rfl).trans (if_neg c_7).symm)⟩, zh ht hP⟩, hS.F ht⟩) hS.2.2 dL_captures_23

set_option maxHeartbeats 4000000 in
set_option maxRecDepth 100000 in
theorem c_L_worth (l : Launch) (hl0 : l.stackTraces = false) (dC : Nat → ClassId) (dI : Nat → Nat → Nat) (cyI cyJ : ClassId) (tb ax a0 a1 ae aw at_ ao aq : Nat) (mk wn cnt lo lq : Int32) (wf : Nat → Int32) (k kk tn own oth mm : Nat) (hsd : zSd tn a0 a1 ao aq) (hO : zok k own) (hQ : zok k oth) (hk1 : 1 ≤ k) (hkk : kk ≤ 60) (htb : zTb kk wf) (hmk : zmk mk mm) (hmm : mm ≤ 4) (v : Int32) (aL : Nat) (oF : Nat → Int64) (hnd : [ax, ao, aq, ae, at_, aL].Nodup) : vx_Met l yL_worth wsL_worth ({ frames := 31, cells := 1, slots := 6, locals := 722 }) (zPc [.ref ax, .int v, .ref aL] (dC, dI) vwCl [(cyI, .int), (cyJ, .long)] [(ax, .inr (2, [.ref a0, .ref a1, .ref ae, .ref aw, .int (nI k), .int (nI tn), .int mk, .int wn, .int cnt])), (ao, .inr (1, [.long (lN own), .int lo])), (aq, .inr (1, [.long (lN oth), .int lq])), (ae, .inr (0, [.ref at_, .int (nI kk)])), (at_, .inl (cyI, 13500, .inl wf)), (aL, .inl (cyJ, 1, .inr (.inl oF)))] (fun U => zH tb (zA [ax, ao, aq, ae, at_, aL]) U U.heap)) (va_Qi (fun (r : Int32) (u : Option (Nat × (Nat → Int32)) × (Nat → Int64)) => (∃ (x : Nat × (Nat → Int32)) (r9 : Int32), u.1 = some x ∧ r = 0 ∧ (fun (r : Int32) (u : Nat × (Nat → Int32)) => ∃ d, d ≤ 3 ∧ v = nI d ∧ zTb u.1 u.2 ∧ u.1 ≤ 60 ∧ r = (if tn = 0 then zWT k tn wn mk mm d own oth else 1000000000 - zWT k tn wn mk mm d own oth)) r9 x ∧ u.2 0 = r9.toInt64) ∨ (u.1 = none ∧ (r = 1 ∧ ¬ (0 ≤ v ∧ v ≤ 3)))) (fun (u : Option (Nat × (Nat → Int32)) × (Nat → Int64)) t => va_P (dC, dI) vwCl (zOp u.1 (fun u => [(ax, .inr (2, [.ref a0, .ref a1, .ref ae, .ref aw, .int (nI k), .int (nI tn), .int mk, .int wn, .int cnt])), (ao, .inr (1, [.long (lN own), .int lo])), (aq, .inr (1, [.long (lN oth), .int lq])), (ae, .inr (0, [.ref at_, .int (nI u.1)])), (at_, .inl (cyI, 13500, .inl u.2))]) [(ax, .inr (2, [.ref a0, .ref a1, .ref ae, .ref aw, .int (nI k), .int (nI tn), .int mk, .int wn, .int cnt])), (ao, .inr (1, [.long (lN own), .int lo])), (aq, .inr (1, [.long (lN oth), .int lq])), (ae, .inr (0, [.ref at_, .int (nI kk)])), (at_, .inl (cyI, 13500, .inl wf))] ++ [(aL, .inl (cyJ, 1, .inr (.inl u.2)))]) t.heap) (zA [ax, ao, aq, ae, at_, aL])) (vx_X (fun (_ : Unit) => False) (fun (_ : String) _ _ => True) zF) 1 6 (zA [ax, ao, aq, ae, at_, aL]) := by
  refine vx_ofWH (cc := cL_worth) (maxL := 4) (ret := (some .int)) (hh := [(0, 9, 12, 13)]) (by decide) rfl ?_
  intro p e s m args below meth c s₁ B hml hv
  obtain ⟨rfl, hP, hK, hX⟩ := hv
  have hx := B.exec
  have hb := B.bytes
  have hr := B.returns
  have hts := atoms_spec (ws := wsL_worth) B.pre
  have hown : s.vm.findClass RL = some m.cls := findClass_of_methodNamed B.named
  have hlocks := B.notSynchronized
  have hex : c.exceptionTable.toList = [⟨0, 9, 12, 13⟩] := (vx_table (x := yL_worth) B (hts _ List.mem_cons_self)).trans rfl
  have hl := lv_entry ([.ref ax, .int v, .ref aL]) (n := 4) (Nat.le_of_ble_eq_true rfl)
  rw [lg_entry_eq]
  generalize (lg_sl ([.ref ax, .int v, .ref aL]) ++ List.replicate (4 - (lg_sl ([.ref ax, .int v, .ref aL])).length) Slot.unset).toArray = ls at hl ⊢
  have hl : lv_has ls 4 [(0, .ref ax), (1, .int v), (2, .ref aL)] := hl
  have hS : va_S (zA [ax, ao, aq, ae, at_, aL]) s.heap s.heap [] := va_S.rf
  have hDD : zD (zA [ax, ao, aq, ae, at_, aL]) [ax, ao, aq, ae, at_, aL] := ⟨hnd, fun _ h => h⟩
  refine lv_aload_n hx hb dL_worth_0 rfl (lv_at hl 2 rfl) ?_
  refine lv_iconst (v := 0) hx hb dL_worth_1 (by decide) ?_
  refine lv_aload_n hx hb dL_worth_2 rfl (lv_at hl 0 rfl) ?_
  refine lv_iload_n hx hb dL_worth_3 rfl (lv_at hl 1 rfl) ?_
  refine zwx_i (w1 := fun u : Nat × (Nat → Int32) => [(ax, .inr (2, [.ref a0, .ref a1, .ref ae, .ref aw, .int (nI k), .int (nI tn), .int mk, .int wn, .int cnt])), (ao, .inr (1, [.long (lN own), .int lo])), (aq, .inr (1, [.long (lN oth), .int lq])), (ae, .inr (0, [.ref at_, .int (nI u.1)])), (at_, .inl (cyI, 13500, .inl u.2))]) (al := [ax, ao, aq, ae, at_]) (vx_runV (As := [.int v]) (rest := [.int 0, .ref aL]) ⟨hx, hb, hml, hown, hts⟩ (c_X5_worth l hl0 dC dI cyI cyJ tb ax a0 a1 ae aw at_ ao aq mk wn cnt lo lq wf k kk tn own oth mm hsd hO hQ hk1 hkk htb hmk hmm v (z_nd hnd [0, 1, 2, 3, 4] (by decide) rfl)) (cwV 1 hts gL_worth_X5_worth rfl rfl rfl (by decide +kernel) ⟨Nat.le_of_ble_eq_true rfl, Nat.le_of_ble_eq_true rfl⟩) (zPc_V (ci := 2) (q0 := 0) zB_G hP hK rfl rfl [0, 1, 2, 3, 4] rfl (zG_at hX.1 hS (zA_pl [0, 1, 2, 3, 4] rfl))) rfl rfl hl.1 rfl (lv_room (Nat.le_of_ble_eq_true rfl)) dL_worth_4 ⟨Nat.le_of_ble_eq_true rfl, Nat.le_of_ble_eq_true rfl⟩) hP hDD hS [0, 1, 2, 3, 4] rfl (fun _ => rfl) (fun E ce q9 H locs hE hP hS hce hcv hcl => ?_) (fun r9 u H locs hw hP hS => ?_)
  · skip
    have hP : va_P (dC, dI) vwCl [(ax, .inr (2, [.ref a0, .ref a1, .ref ae, .ref aw, .int (nI k), .int (nI tn), .int mk, .int wn, .int cnt])), (ao, .inr (1, [.long (lN own), .int lo])), (aq, .inr (1, [.long (lN oth), .int lq])), (ae, .inr (0, [.ref at_, .int (nI kk)])), (at_, .inl (cyI, 13500, .inl wf)), (aL, .inl (cyJ, 1, .inr (.inl oF)))] H := hP
    obtain ⟨rfl, hE⟩ := hE
    refine vx_catch (name := zIA) hown [] ⟨0, 9, 12, 13⟩ [] hex (fun z hz => by cases hz) (by decide) (by decide) (hts (.classLink RL 13 "java/lang/IllegalArgumentException") (List.mem_of_getElem? (i := 1) rfl)) (va_Nw.use rfl hX.1.2.2.2.2.2.2.1) hce hcv hcl ?_
    refine lv_astore_n (lv' := [(3, .ref q9), (0, .ref ax), (1, .int v), (2, .ref aL)]) hx hb dL_worth_12 rfl hl (by decide) rfl (fun ls hl => ?_)
    refine lv_iconst (v := 1) hx hb dL_worth_13 (by decide) ?_
    refine vx_ret (mc := 1) (ms := 6) ?_
    refine W.widen (k := 1) (n := 6) (Nat.le_of_ble_eq_true rfl) (Nat.le_of_ble_eq_true rfl) ?_
    exact W.iret (v := 1) hx hb hr (fun t ht hW => ⟨⟨_, (none, oF), rfl, Or.inr ⟨rfl, ⟨rfl, hE⟩⟩, zh ht hP⟩, hS.F ht⟩) hS.2.2 dL_worth_14
  · skip
    have hP : va_P (dC, dI) vwCl [(ax, .inr (2, [.ref a0, .ref a1, .ref ae, .ref aw, .int (nI k), .int (nI tn), .int mk, .int wn, .int cnt])), (ao, .inr (1, [.long (lN own), .int lo])), (aq, .inr (1, [.long (lN oth), .int lq])), (ae, .inr (0, [.ref at_, .int (nI u.1)])), (at_, .inl (cyI, 13500, .inl u.2)), (aL, .inl (cyJ, 1, .inr (.inl oF)))] H := hP
    refine lv_i2l (v := (r9 : Int32).toInt64) hx hb dL_worth_7 rfl ?_
    refine zi_last hx hb hK hP hDD hS 5 1 rfl rfl (j := 0) rfl (by omega) (by decide) dL_worth_8 (fun H locs hP hS => ?_)
    have hP : va_P (dC, dI) vwCl [(ax, .inr (2, [.ref a0, .ref a1, .ref ae, .ref aw, .int (nI k), .int (nI tn), .int mk, .int wn, .int cnt])), (ao, .inr (1, [.long (lN own), .int lo])), (aq, .inr (1, [.long (lN oth), .int lq])), (ae, .inr (0, [.ref at_, .int (nI u.1)])), (at_, .inl (cyI, 13500, .inl u.2)), (aL, .inl (cyJ, 1, .inr (.inl (vp_updL oF 0 ((r9 : Int32).toInt64)))))] H := hP
    refine lv_goto (tgt := 15) hx hb dL_worth_9 (by decide) ?_
    refine lv_iconst (v := 0) hx hb dL_worth_15 (by decide) ?_
    refine vx_ret (mc := 1) (ms := 6) ?_
    refine W.widen (k := 1) (n := 6) (Nat.le_of_ble_eq_true rfl) (Nat.le_of_ble_eq_true rfl) ?_
    exact W.iret (v := 0) hx hb hr (fun t ht hW => ⟨⟨_, (some u, (vp_updL oF 0 ((r9 : Int32).toInt64))), rfl, Or.inl ⟨u, r9, rfl, rfl, hw, (show (vp_updL oF 0 ((r9 : Int32).toInt64)) 0 = (r9 : Int32).toInt64 from if_pos rfl)⟩, zh ht hP⟩, hS.F ht⟩) hS.2.2 dL_worth_16

set_option maxHeartbeats 4000000 in
set_option maxRecDepth 100000 in
theorem c_L_chance (l : Launch) (hl0 : l.stackTraces = false) (dC : Nat → ClassId) (dI : Nat → Nat → Nat) (cyI cyJ : ClassId) (tb ax a0 a1 ae aw at_ ao aq : Nat) (mk wn cnt lo lq : Int32) (wf : Nat → Int32) (k kk tn own oth mm : Nat) (hsd : zSd tn a0 a1 ao aq) (hO : zok k own) (hQ : zok k oth) (hk1 : 1 ≤ k) (hkk : kk ≤ 60) (htb : zTb kk wf) (hmk : zmk mk mm) (hmm : mm ≤ 4) (v : Int32) (aL : Nat) (oF : Nat → UInt64) (cyD : ClassId) (hnd : [ax, ao, aq, ae, at_, aL].Nodup) : vx_Met l yL_chance wsL_chance ({ frames := 31, cells := 1, slots := 6, locals := 721 }) (zPc [.ref ax, .int v, .ref aL] (dC, dI) vwCl [(cyI, .int), (cyJ, .long), (cyD, .double)] [(ax, .inr (2, [.ref a0, .ref a1, .ref ae, .ref aw, .int (nI k), .int (nI tn), .int mk, .int wn, .int cnt])), (ao, .inr (1, [.long (lN own), .int lo])), (aq, .inr (1, [.long (lN oth), .int lq])), (ae, .inr (0, [.ref at_, .int (nI kk)])), (at_, .inl (cyI, 13500, .inl wf)), (aL, .inl (cyD, 1, .inr (.inr (.inr (.inl oF)))))] (fun U => zH tb (zA [ax, ao, aq, ae, at_, aL]) U U.heap)) (va_Qi (fun (r : Int32) (u : Option (Nat × (Nat → Int32)) × (Nat → UInt64)) => (∃ (x : Nat × (Nat → Int32)) (r9 : UInt64), u.1 = some x ∧ r = 0 ∧ (fun (r : UInt64) (u : Nat × (Nat → Int32)) => ∃ d, d ≤ 3 ∧ v = nI d ∧ zTb u.1 u.2 ∧ u.1 ≤ 60 ∧ r = zCh (zWT k tn wn mk mm d own oth)) r9 x ∧ u.2 0 = r9) ∨ (u.1 = none ∧ (r = 1 ∧ ¬ (0 ≤ v ∧ v ≤ 3)))) (fun (u : Option (Nat × (Nat → Int32)) × (Nat → UInt64)) t => va_P (dC, dI) vwCl (zOp u.1 (fun u => [(ax, .inr (2, [.ref a0, .ref a1, .ref ae, .ref aw, .int (nI k), .int (nI tn), .int mk, .int wn, .int cnt])), (ao, .inr (1, [.long (lN own), .int lo])), (aq, .inr (1, [.long (lN oth), .int lq])), (ae, .inr (0, [.ref at_, .int (nI u.1)])), (at_, .inl (cyI, 13500, .inl u.2))]) [(ax, .inr (2, [.ref a0, .ref a1, .ref ae, .ref aw, .int (nI k), .int (nI tn), .int mk, .int wn, .int cnt])), (ao, .inr (1, [.long (lN own), .int lo])), (aq, .inr (1, [.long (lN oth), .int lq])), (ae, .inr (0, [.ref at_, .int (nI kk)])), (at_, .inl (cyI, 13500, .inl wf))] ++ [(aL, .inl (cyD, 1, .inr (.inr (.inr (.inl u.2)))))]) t.heap) (zA [ax, ao, aq, ae, at_, aL])) (vx_X (fun (_ : Unit) => False) (fun (_ : String) _ _ => True) zF) 1 6 (zA [ax, ao, aq, ae, at_, aL]) := by
  refine vx_ofWH (cc := cL_chance) (maxL := 4) (ret := (some .int)) (hh := [(0, 8, 11, 13)]) (by decide) rfl ?_
  intro p e s m args below meth c s₁ B hml hv
  obtain ⟨rfl, hP, hK, hX⟩ := hv
  have hx := B.exec
  have hb := B.bytes
  have hr := B.returns
  have hts := atoms_spec (ws := wsL_chance) B.pre
  have hown : s.vm.findClass RL = some m.cls := findClass_of_methodNamed B.named
  have hlocks := B.notSynchronized
  have hex : c.exceptionTable.toList = [⟨0, 8, 11, 13⟩] := (vx_table (x := yL_chance) B (hts _ List.mem_cons_self)).trans rfl
  have hl := lv_entry ([.ref ax, .int v, .ref aL]) (n := 4) (Nat.le_of_ble_eq_true rfl)
  rw [lg_entry_eq]
  generalize (lg_sl ([.ref ax, .int v, .ref aL]) ++ List.replicate (4 - (lg_sl ([.ref ax, .int v, .ref aL])).length) Slot.unset).toArray = ls at hl ⊢
  have hl : lv_has ls 4 [(0, .ref ax), (1, .int v), (2, .ref aL)] := hl
  have hS : va_S (zA [ax, ao, aq, ae, at_, aL]) s.heap s.heap [] := va_S.rf
  have hDD : zD (zA [ax, ao, aq, ae, at_, aL]) [ax, ao, aq, ae, at_, aL] := ⟨hnd, fun _ h => h⟩
  refine lv_aload_n hx hb dL_chance_0 rfl (lv_at hl 2 rfl) ?_
  refine lv_iconst (v := 0) hx hb dL_chance_1 (by decide) ?_
  refine lv_aload_n hx hb dL_chance_2 rfl (lv_at hl 0 rfl) ?_
  refine lv_iload_n hx hb dL_chance_3 rfl (lv_at hl 1 rfl) ?_
  refine zwx_d (w1 := fun u : Nat × (Nat → Int32) => [(ax, .inr (2, [.ref a0, .ref a1, .ref ae, .ref aw, .int (nI k), .int (nI tn), .int mk, .int wn, .int cnt])), (ao, .inr (1, [.long (lN own), .int lo])), (aq, .inr (1, [.long (lN oth), .int lq])), (ae, .inr (0, [.ref at_, .int (nI u.1)])), (at_, .inl (cyI, 13500, .inl u.2))]) (al := [ax, ao, aq, ae, at_]) (vx_runV (As := [.int v]) (rest := [.int 0, .ref aL]) ⟨hx, hb, hml, hown, hts⟩ (c_X5_chance l hl0 dC dI cyI cyJ tb ax a0 a1 ae aw at_ ao aq mk wn cnt lo lq wf k kk tn own oth mm hsd hO hQ hk1 hkk htb hmk hmm v (z_nd hnd [0, 1, 2, 3, 4] (by decide) rfl)) (cwV 1 hts gL_chance_X5_chance rfl rfl rfl (by decide +kernel) ⟨Nat.le_of_ble_eq_true rfl, Nat.le_of_ble_eq_true rfl⟩) (zPc_V (ci := 2) (q0 := 0) zB_G hP (hK.sub [0, 1] rfl) rfl rfl [0, 1, 2, 3, 4] rfl (zG_at hX.1 hS (zA_pl [0, 1, 2, 3, 4] rfl))) rfl rfl hl.1 rfl (lv_room (Nat.le_of_ble_eq_true rfl)) dL_chance_4 ⟨Nat.le_of_ble_eq_true rfl, Nat.le_of_ble_eq_true rfl⟩) hP hDD hS [0, 1, 2, 3, 4] rfl (fun _ => rfl) (fun E ce q9 H locs hE hP hS hce hcv hcl => ?_) (fun r9 u H locs hw hP hS => ?_)
  · skip
    have hP : va_P (dC, dI) vwCl [(ax, .inr (2, [.ref a0, .ref a1, .ref ae, .ref aw, .int (nI k), .int (nI tn), .int mk, .int wn, .int cnt])), (ao, .inr (1, [.long (lN own), .int lo])), (aq, .inr (1, [.long (lN oth), .int lq])), (ae, .inr (0, [.ref at_, .int (nI kk)])), (at_, .inl (cyI, 13500, .inl wf)), (aL, .inl (cyD, 1, .inr (.inr (.inr (.inl oF)))))] H := hP
    obtain ⟨rfl, hE⟩ := hE
    refine vx_catch (name := zIA) hown [] ⟨0, 8, 11, 13⟩ [] hex (fun z hz => by cases hz) (by decide) (by decide) (hts (.classLink RL 13 "java/lang/IllegalArgumentException") (List.mem_of_getElem? (i := 1) rfl)) (va_Nw.use rfl hX.1.2.2.2.2.2.2.1) hce hcv hcl ?_
    refine lv_astore_n (lv' := [(3, .ref q9), (0, .ref ax), (1, .int v), (2, .ref aL)]) hx hb dL_chance_11 rfl hl (by decide) rfl (fun ls hl => ?_)
    refine lv_iconst (v := 1) hx hb dL_chance_12 (by decide) ?_
    refine vx_ret (mc := 1) (ms := 6) ?_
    refine W.widen (k := 1) (n := 6) (Nat.le_of_ble_eq_true rfl) (Nat.le_of_ble_eq_true rfl) ?_
    exact W.iret (v := 1) hx hb hr (fun t ht hW => ⟨⟨_, (none, oF), rfl, Or.inr ⟨rfl, ⟨rfl, hE⟩⟩, zh ht hP⟩, hS.F ht⟩) hS.2.2 dL_chance_13
  · skip
    have hP : va_P (dC, dI) vwCl [(ax, .inr (2, [.ref a0, .ref a1, .ref ae, .ref aw, .int (nI k), .int (nI tn), .int mk, .int wn, .int cnt])), (ao, .inr (1, [.long (lN own), .int lo])), (aq, .inr (1, [.long (lN oth), .int lq])), (ae, .inr (0, [.ref at_, .int (nI u.1)])), (at_, .inl (cyI, 13500, .inl u.2)), (aL, .inl (cyD, 1, .inr (.inr (.inr (.inl oF)))))] H := hP
    refine zi_dast hx hb hK hP hDD hS 5 2 rfl rfl (j := 0) rfl (by omega) (by decide) dL_chance_7 (fun H locs hP hS => ?_)
    have hP : va_P (dC, dI) vwCl [(ax, .inr (2, [.ref a0, .ref a1, .ref ae, .ref aw, .int (nI k), .int (nI tn), .int mk, .int wn, .int cnt])), (ao, .inr (1, [.long (lN own), .int lo])), (aq, .inr (1, [.long (lN oth), .int lq])), (ae, .inr (0, [.ref at_, .int (nI u.1)])), (at_, .inl (cyI, 13500, .inl u.2)), (aL, .inl (cyD, 1, .inr (.inr (.inr (.inl (vf_upd oF 0 r9))))))] H := hP
    refine lv_goto (tgt := 14) hx hb dL_chance_8 (by decide) ?_
    refine lv_iconst (v := 0) hx hb dL_chance_14 (by decide) ?_
    refine vx_ret (mc := 1) (ms := 6) ?_
    refine W.widen (k := 1) (n := 6) (Nat.le_of_ble_eq_true rfl) (Nat.le_of_ble_eq_true rfl) ?_
    exact W.iret (v := 0) hx hb hr (fun t ht hW => ⟨⟨_, (some u, (vf_upd oF 0 r9)), rfl, Or.inl ⟨u, r9, rfl, rfl, hw, (show (vf_upd oF 0 r9) 0 = r9 from if_pos rfl)⟩, zh ht hP⟩, hS.F ht⟩) hS.2.2 dL_chance_15

set_option maxHeartbeats 4000000 in
set_option maxRecDepth 100000 in
theorem c_L_ranked (l : Launch) (hl0 : l.stackTraces = false) (dC : Nat → ClassId) (dI : Nat → Nat → Nat) (cyI cyJ : ClassId) (tb ax a0 a1 ae aw at_ ao aq : Nat) (mk wn cnt lo lq : Int32) (wf wb : Nat → Int32) (k kk tn own oth mm : Nat) (hsd : zSd tn a0 a1 ao aq) (hO : zok k own) (hQ : zok k oth) (hk1 : 1 ≤ k) (hkk : kk ≤ 60) (htb : zTb kk wf) (hmk : zmk mk mm) (hmm : mm ≤ 4) (v w9 : Int32) (aL : Nat) (oF : Nat → Int64) (hnd : [ax, ao, aq, ae, at_, aw, aL].Nodup) : vx_Met l yL_ranked wsL_ranked ({ frames := 31, cells := 2, slots := 12, locals := 724 }) (zPc [.ref ax, .int v, .int w9, .ref aL] (dC, dI) vwCl [(cyI, .int), (cyJ, .long)] [(ax, .inr (2, [.ref a0, .ref a1, .ref ae, .ref aw, .int (nI k), .int (nI tn), .int mk, .int wn, .int cnt])), (ao, .inr (1, [.long (lN own), .int lo])), (aq, .inr (1, [.long (lN oth), .int lq])), (ae, .inr (0, [.ref at_, .int (nI kk)])), (at_, .inl (cyI, 13500, .inl wf)), (aw, .inl (cyI, 15, .inl wb)), (aL, .inl (cyJ, 1, .inr (.inl oF)))] (fun U => zH tb (zA [ax, ao, aq, ae, at_, aw, aL]) U U.heap)) (va_Qi (fun (r : Int32) (u : Option (Nat × (Nat → Int32) × (Nat → Int32)) × (Nat → Int64)) => (∃ (x : Nat × (Nat → Int32) × (Nat → Int32)) (r9 : Int32), u.1 = some x ∧ r = 0 ∧ (fun (r : Int32) (u : Nat × (Nat → Int32) × (Nat → Int32)) => ∃ d, d ≤ 3 ∧ v = nI d ∧ 0 ≤ w9 ∧ zTb u.1 u.2.1 ∧ u.1 ≤ 60 ∧ r = (if w9 < nI (zNum own oth mm 15) then zRk (zWB k d own oth mm) w9 0 15 else -1)) r9 x ∧ u.2 0 = r9.toInt64) ∨ (u.1 = none ∧ (r = 1 ∧ ¬ ((0 ≤ v ∧ v ≤ 3) ∧ 0 ≤ w9)))) (fun (u : Option (Nat × (Nat → Int32) × (Nat → Int32)) × (Nat → Int64)) t => va_P (dC, dI) vwCl (zOp u.1 (fun u => [(ax, .inr (2, [.ref a0, .ref a1, .ref ae, .ref aw, .int (nI k), .int (nI tn), .int mk, .int wn, .int cnt])), (ao, .inr (1, [.long (lN own), .int lo])), (aq, .inr (1, [.long (lN oth), .int lq])), (ae, .inr (0, [.ref at_, .int (nI u.1)])), (at_, .inl (cyI, 13500, .inl u.2.1)), (aw, .inl (cyI, 15, .inl u.2.2))]) [(ax, .inr (2, [.ref a0, .ref a1, .ref ae, .ref aw, .int (nI k), .int (nI tn), .int mk, .int wn, .int cnt])), (ao, .inr (1, [.long (lN own), .int lo])), (aq, .inr (1, [.long (lN oth), .int lq])), (ae, .inr (0, [.ref at_, .int (nI kk)])), (at_, .inl (cyI, 13500, .inl wf)), (aw, .inl (cyI, 15, .inl wb))] ++ [(aL, .inl (cyJ, 1, .inr (.inl u.2)))]) t.heap) (zA [ax, ao, aq, ae, at_, aw, aL])) (vx_X (fun (_ : Unit) => False) (fun (_ : String) _ _ => True) zF) 2 12 (zA [ax, ao, aq, ae, at_, aw, aL]) := by
  refine vx_ofWH (cc := cL_ranked) (maxL := 5) (ret := (some .int)) (hh := [(0, 10, 13, 13)]) (by decide) rfl ?_
  intro p e s m args below meth c s₁ B hml hv
  obtain ⟨rfl, hP, hK, hX⟩ := hv
  have hx := B.exec
  have hb := B.bytes
  have hr := B.returns
  have hts := atoms_spec (ws := wsL_ranked) B.pre
  have hown : s.vm.findClass RL = some m.cls := findClass_of_methodNamed B.named
  have hlocks := B.notSynchronized
  have hex : c.exceptionTable.toList = [⟨0, 10, 13, 13⟩] := (vx_table (x := yL_ranked) B (hts _ List.mem_cons_self)).trans rfl
  have hl := lv_entry ([.ref ax, .int v, .int w9, .ref aL]) (n := 5) (Nat.le_of_ble_eq_true rfl)
  rw [lg_entry_eq]
  generalize (lg_sl ([.ref ax, .int v, .int w9, .ref aL]) ++ List.replicate (5 - (lg_sl ([.ref ax, .int v, .int w9, .ref aL])).length) Slot.unset).toArray = ls at hl ⊢
  have hl : lv_has ls 5 [(0, .ref ax), (1, .int v), (2, .int w9), (3, .ref aL)] := hl
  have hS : va_S (zA [ax, ao, aq, ae, at_, aw, aL]) s.heap s.heap [] := va_S.rf
  have hDD : zD (zA [ax, ao, aq, ae, at_, aw, aL]) [ax, ao, aq, ae, at_, aw, aL] := ⟨hnd, fun _ h => h⟩
  refine lv_aload_n hx hb dL_ranked_0 rfl (lv_at hl 3 rfl) ?_
  refine lv_iconst (v := 0) hx hb dL_ranked_1 (by decide) ?_
  refine lv_aload_n hx hb dL_ranked_2 rfl (lv_at hl 0 rfl) ?_
  refine lv_iload_n hx hb dL_ranked_3 rfl (lv_at hl 1 rfl) ?_
  refine lv_iload_n hx hb dL_ranked_4 rfl (lv_at hl 2 rfl) ?_
  refine zwx_i (w1 := fun u : Nat × (Nat → Int32) × (Nat → Int32) => [(ax, .inr (2, [.ref a0, .ref a1, .ref ae, .ref aw, .int (nI k), .int (nI tn), .int mk, .int wn, .int cnt])), (ao, .inr (1, [.long (lN own), .int lo])), (aq, .inr (1, [.long (lN oth), .int lq])), (ae, .inr (0, [.ref at_, .int (nI u.1)])), (at_, .inl (cyI, 13500, .inl u.2.1)), (aw, .inl (cyI, 15, .inl u.2.2))]) (al := [ax, ao, aq, ae, at_, aw]) (vx_runV (As := [.int v, .int w9]) (rest := [.int 0, .ref aL]) ⟨hx, hb, hml, hown, hts⟩ (c_X5_ranked l hl0 dC dI cyI cyJ tb ax a0 a1 ae aw at_ ao aq mk wn cnt lo lq wf wb k kk tn own oth mm hsd hO hQ hk1 hkk htb hmk hmm v w9 (z_nd hnd [0, 1, 2, 3, 4, 5] (by decide) rfl)) (cwV 2 hts gL_ranked_X5_ranked rfl rfl rfl (by decide +kernel) ⟨Nat.le_of_ble_eq_true rfl, Nat.le_of_ble_eq_true rfl⟩) (zPc_V (ci := 2) (q0 := 0) zB_G hP hK rfl rfl [0, 1, 2, 3, 4, 5] rfl (zG_at hX.1 hS (zA_pl [0, 1, 2, 3, 4, 5] rfl))) rfl rfl hl.1 rfl (lv_room (Nat.le_of_ble_eq_true rfl)) dL_ranked_5 ⟨Nat.le_of_ble_eq_true rfl, Nat.le_of_ble_eq_true rfl⟩) hP hDD hS [0, 1, 2, 3, 4, 5] rfl (fun _ => rfl) (fun E ce q9 H locs hE hP hS hce hcv hcl => ?_) (fun r9 u H locs hw hP hS => ?_)
  · skip
    have hP : va_P (dC, dI) vwCl [(ax, .inr (2, [.ref a0, .ref a1, .ref ae, .ref aw, .int (nI k), .int (nI tn), .int mk, .int wn, .int cnt])), (ao, .inr (1, [.long (lN own), .int lo])), (aq, .inr (1, [.long (lN oth), .int lq])), (ae, .inr (0, [.ref at_, .int (nI kk)])), (at_, .inl (cyI, 13500, .inl wf)), (aw, .inl (cyI, 15, .inl wb)), (aL, .inl (cyJ, 1, .inr (.inl oF)))] H := hP
    obtain ⟨rfl, hE⟩ := hE
    refine vx_catch (name := zIA) hown [] ⟨0, 10, 13, 13⟩ [] hex (fun z hz => by cases hz) (by decide) (by decide) (hts (.classLink RL 13 "java/lang/IllegalArgumentException") (List.mem_of_getElem? (i := 1) rfl)) (va_Nw.use rfl hX.1.2.2.2.2.2.2.1) hce hcv hcl ?_
    refine lv_astore (lv' := [(4, .ref q9), (0, .ref ax), (1, .int v), (2, .int w9), (3, .ref aL)]) hx hb dL_ranked_13 hl (by decide) rfl (fun ls hl => ?_)
    refine lv_iconst (v := 1) hx hb dL_ranked_15 (by decide) ?_
    refine vx_ret (mc := 2) (ms := 12) ?_
    refine W.widen (k := 2) (n := 12) (Nat.le_of_ble_eq_true rfl) (Nat.le_of_ble_eq_true rfl) ?_
    exact W.iret (v := 1) hx hb hr (fun t ht hW => ⟨⟨_, (none, oF), rfl, Or.inr ⟨rfl, ⟨rfl, hE⟩⟩, zh ht hP⟩, hS.F ht⟩) hS.2.2 dL_ranked_16
  · skip
    have hP : va_P (dC, dI) vwCl [(ax, .inr (2, [.ref a0, .ref a1, .ref ae, .ref aw, .int (nI k), .int (nI tn), .int mk, .int wn, .int cnt])), (ao, .inr (1, [.long (lN own), .int lo])), (aq, .inr (1, [.long (lN oth), .int lq])), (ae, .inr (0, [.ref at_, .int (nI u.1)])), (at_, .inl (cyI, 13500, .inl u.2.1)), (aw, .inl (cyI, 15, .inl u.2.2)), (aL, .inl (cyJ, 1, .inr (.inl oF)))] H := hP
    refine lv_i2l (v := (r9 : Int32).toInt64) hx hb dL_ranked_8 rfl ?_
    refine zi_last hx hb hK hP hDD hS 6 1 rfl rfl (j := 0) rfl (by omega) (by decide) dL_ranked_9 (fun H locs hP hS => ?_)
    have hP : va_P (dC, dI) vwCl [(ax, .inr (2, [.ref a0, .ref a1, .ref ae, .ref aw, .int (nI k), .int (nI tn), .int mk, .int wn, .int cnt])), (ao, .inr (1, [.long (lN own), .int lo])), (aq, .inr (1, [.long (lN oth), .int lq])), (ae, .inr (0, [.ref at_, .int (nI u.1)])), (at_, .inl (cyI, 13500, .inl u.2.1)), (aw, .inl (cyI, 15, .inl u.2.2)), (aL, .inl (cyJ, 1, .inr (.inl (vp_updL oF 0 ((r9 : Int32).toInt64)))))] H := hP
    refine lv_goto (tgt := 17) hx hb dL_ranked_10 (by decide) ?_
    refine lv_iconst (v := 0) hx hb dL_ranked_17 (by decide) ?_
    refine vx_ret (mc := 2) (ms := 12) ?_
    refine W.widen (k := 2) (n := 12) (Nat.le_of_ble_eq_true rfl) (Nat.le_of_ble_eq_true rfl) ?_
    exact W.iret (v := 0) hx hb hr (fun t ht hW => ⟨⟨_, (some u, (vp_updL oF 0 ((r9 : Int32).toInt64))), rfl, Or.inl ⟨u, r9, rfl, rfl, hw, (show (vp_updL oF 0 ((r9 : Int32).toInt64)) 0 = (r9 : Int32).toInt64 from if_pos rfl)⟩, zh ht hP⟩, hS.F ht⟩) hS.2.2 dL_ranked_18

set_option maxHeartbeats 4000000 in
set_option maxRecDepth 100000 in
theorem c_L_ending (l : Launch) (hl0 : l.stackTraces = false) (dC : Nat → ClassId) (dI : Nat → Nat → Nat) (cyI cyJ : ClassId) (tb ax a0 a1 ae aw at_ : Nat) (pI tI mk wn cnt : Int32) (wf : Nat → Int32) (kk : Nat) (hkk : kk ≤ 60) (htb : zTb kk wf) (v1 v2 v3 : Int32) (aL : Nat) (oF : Nat → Int64) (hnd : [ax, ae, at_, aL].Nodup) : vx_Met l yL_ending wsL_ending ({ frames := 9, cells := 4, slots := 24, locals := 175 }) (zPc [.ref ax, .int v1, .int v2, .int v3, .ref aL] (dC, dI) vwCl [(cyI, .int), (cyJ, .long)] [(ax, .inr (2, [.ref a0, .ref a1, .ref ae, .ref aw, .int pI, .int tI, .int mk, .int wn, .int cnt])), (ae, .inr (0, [.ref at_, .int (nI kk)])), (at_, .inl (cyI, 13500, .inl wf)), (aL, .inl (cyJ, 1, .inr (.inl oF)))] (fun U => zH tb (zA [ax, ae, at_, aL]) U U.heap)) (va_Qi (fun (r : Int32) (u : Option (Nat × (Nat → Int32)) × (Nat → Int64)) => (∃ (x : Nat × (Nat → Int32)) (r9 : Int32), u.1 = some x ∧ r = 0 ∧ (fun (r : Int32) (u : Nat × (Nat → Int32)) => ∃ a b rr : Nat, a ≤ 14 ∧ b ≤ 14 ∧ rr ≤ 60 ∧ v1 = nI a ∧ v2 = nI b ∧ v3 = nI rr ∧ ¬ (a = b ∧ zshr a = true) ∧ zTb u.1 u.2 ∧ u.1 ≤ 60 ∧ r = nI (zE rr a b)) r9 x ∧ u.2 0 = r9.toInt64) ∨ (u.1 = none ∧ (r = 1 ∧ ¬ (zEnd v1 v2 ∧ (0 ≤ v3 ∧ v3 ≤ 60))))) (fun (u : Option (Nat × (Nat → Int32)) × (Nat → Int64)) t => va_P (dC, dI) vwCl (zOp u.1 (fun u => [(ax, .inr (2, [.ref a0, .ref a1, .ref ae, .ref aw, .int pI, .int tI, .int mk, .int wn, .int cnt])), (ae, .inr (0, [.ref at_, .int (nI u.1)])), (at_, .inl (cyI, 13500, .inl u.2))]) [(ax, .inr (2, [.ref a0, .ref a1, .ref ae, .ref aw, .int pI, .int tI, .int mk, .int wn, .int cnt])), (ae, .inr (0, [.ref at_, .int (nI kk)])), (at_, .inl (cyI, 13500, .inl wf))] ++ [(aL, .inl (cyJ, 1, .inr (.inl u.2)))]) t.heap) (zA [ax, ae, at_, aL])) (vx_X (fun (_ : Unit) => False) (fun (_ : String) _ _ => True) zF) 4 24 (zA [ax, ae, at_, aL]) := by
  refine vx_ofWH (cc := cL_ending) (maxL := 6) (ret := (some .int)) (hh := [(0, 12, 15, 13)]) (by decide) rfl ?_
  intro p e s m args below meth c s₁ B hml hv
  obtain ⟨rfl, hP, hK, hX⟩ := hv
  have hx := B.exec
  have hb := B.bytes
  have hr := B.returns
  have hts := atoms_spec (ws := wsL_ending) B.pre
  have hown : s.vm.findClass RL = some m.cls := findClass_of_methodNamed B.named
  have hlocks := B.notSynchronized
  have hex : c.exceptionTable.toList = [⟨0, 12, 15, 13⟩] := (vx_table (x := yL_ending) B (hts _ List.mem_cons_self)).trans rfl
  have hl := lv_entry ([.ref ax, .int v1, .int v2, .int v3, .ref aL]) (n := 6) (Nat.le_of_ble_eq_true rfl)
  rw [lg_entry_eq]
  generalize (lg_sl ([.ref ax, .int v1, .int v2, .int v3, .ref aL]) ++ List.replicate (6 - (lg_sl ([.ref ax, .int v1, .int v2, .int v3, .ref aL])).length) Slot.unset).toArray = ls at hl ⊢
  have hl : lv_has ls 6 [(0, .ref ax), (1, .int v1), (2, .int v2), (3, .int v3), (4, .ref aL)] := hl
  have hS : va_S (zA [ax, ae, at_, aL]) s.heap s.heap [] := va_S.rf
  have hDD : zD (zA [ax, ae, at_, aL]) [ax, ae, at_, aL] := ⟨hnd, fun _ h => h⟩
  refine lv_aload hx hb dL_ending_0 (lv_at hl 4 rfl) ?_
  refine lv_iconst (v := 0) hx hb dL_ending_2 (by decide) ?_
  refine lv_aload_n hx hb dL_ending_3 rfl (lv_at hl 0 rfl) ?_
  refine lv_iload_n hx hb dL_ending_4 rfl (lv_at hl 1 rfl) ?_
  refine lv_iload_n hx hb dL_ending_5 rfl (lv_at hl 2 rfl) ?_
  refine lv_iload_n hx hb dL_ending_6 rfl (lv_at hl 3 rfl) ?_
  refine zwx_i (w1 := fun u : Nat × (Nat → Int32) => [(ax, .inr (2, [.ref a0, .ref a1, .ref ae, .ref aw, .int pI, .int tI, .int mk, .int wn, .int cnt])), (ae, .inr (0, [.ref at_, .int (nI u.1)])), (at_, .inl (cyI, 13500, .inl u.2))]) (al := [ax, ae, at_]) (vx_runV (As := [.int v1, .int v2, .int v3]) (rest := [.int 0, .ref aL]) ⟨hx, hb, hml, hown, hts⟩ (c_X5_ending l hl0 dC dI cyI cyJ tb ax a0 a1 ae aw at_ pI tI mk wn cnt wf kk hkk htb v1 v2 v3 (z_nd hnd [0, 1, 2] (by decide) rfl)) (cwV 3 hts gL_ending_X5_ending rfl rfl rfl (by decide +kernel) ⟨Nat.le_of_ble_eq_true rfl, Nat.le_of_ble_eq_true rfl⟩) (zPc_V (ci := 2) (q0 := 0) zB_G hP hK rfl rfl [0, 1, 2] rfl (zG_at hX.1 hS (zA_pl [0, 1, 2] rfl))) rfl rfl hl.1 rfl (lv_room (Nat.le_of_ble_eq_true rfl)) dL_ending_7 ⟨Nat.le_of_ble_eq_true rfl, Nat.le_of_ble_eq_true rfl⟩) hP hDD hS [0, 1, 2] rfl (fun _ => rfl) (fun E ce q9 H locs hE hP hS hce hcv hcl => ?_) (fun r9 u H locs hw hP hS => ?_)
  · skip
    have hP : va_P (dC, dI) vwCl [(ax, .inr (2, [.ref a0, .ref a1, .ref ae, .ref aw, .int pI, .int tI, .int mk, .int wn, .int cnt])), (ae, .inr (0, [.ref at_, .int (nI kk)])), (at_, .inl (cyI, 13500, .inl wf)), (aL, .inl (cyJ, 1, .inr (.inl oF)))] H := hP
    obtain ⟨rfl, hE⟩ := hE
    refine vx_catch (name := zIA) hown [] ⟨0, 12, 15, 13⟩ [] hex (fun z hz => by cases hz) (by decide) (by decide) (hts (.classLink RL 13 "java/lang/IllegalArgumentException") (List.mem_of_getElem? (i := 1) rfl)) (va_Nw.use rfl hX.1.2.2.2.2.2.2.1) hce hcv hcl ?_
    refine lv_astore (lv' := [(5, .ref q9), (0, .ref ax), (1, .int v1), (2, .int v2), (3, .int v3), (4, .ref aL)]) hx hb dL_ending_15 hl (by decide) rfl (fun ls hl => ?_)
    refine lv_iconst (v := 1) hx hb dL_ending_17 (by decide) ?_
    refine vx_ret (mc := 4) (ms := 24) ?_
    refine W.widen (k := 4) (n := 24) (Nat.le_of_ble_eq_true rfl) (Nat.le_of_ble_eq_true rfl) ?_
    exact W.iret (v := 1) hx hb hr (fun t ht hW => ⟨⟨_, (none, oF), rfl, Or.inr ⟨rfl, ⟨rfl, hE⟩⟩, zh ht hP⟩, hS.F ht⟩) hS.2.2 dL_ending_18
  · skip
    have hP : va_P (dC, dI) vwCl [(ax, .inr (2, [.ref a0, .ref a1, .ref ae, .ref aw, .int pI, .int tI, .int mk, .int wn, .int cnt])), (ae, .inr (0, [.ref at_, .int (nI u.1)])), (at_, .inl (cyI, 13500, .inl u.2)), (aL, .inl (cyJ, 1, .inr (.inl oF)))] H := hP
    refine lv_i2l (v := (r9 : Int32).toInt64) hx hb dL_ending_10 rfl ?_
    refine zi_last hx hb hK hP hDD hS 3 1 rfl rfl (j := 0) rfl (by omega) (by decide) dL_ending_11 (fun H locs hP hS => ?_)
    have hP : va_P (dC, dI) vwCl [(ax, .inr (2, [.ref a0, .ref a1, .ref ae, .ref aw, .int pI, .int tI, .int mk, .int wn, .int cnt])), (ae, .inr (0, [.ref at_, .int (nI u.1)])), (at_, .inl (cyI, 13500, .inl u.2)), (aL, .inl (cyJ, 1, .inr (.inl (vp_updL oF 0 ((r9 : Int32).toInt64)))))] H := hP
    refine lv_goto (tgt := 19) hx hb dL_ending_12 (by decide) ?_
    refine lv_iconst (v := 0) hx hb dL_ending_19 (by decide) ?_
    refine vx_ret (mc := 4) (ms := 24) ?_
    refine W.widen (k := 4) (n := 24) (Nat.le_of_ble_eq_true rfl) (Nat.le_of_ble_eq_true rfl) ?_
    exact W.iret (v := 0) hx hb hr (fun t ht hW => ⟨⟨_, (some u, (vp_updL oF 0 ((r9 : Int32).toInt64))), rfl, Or.inl ⟨u, r9, rfl, rfl, hw, (show (vp_updL oF 0 ((r9 : Int32).toInt64)) 0 = (r9 : Int32).toInt64 from if_pos rfl)⟩, zh ht hP⟩, hS.F ht⟩) hS.2.2 dL_ending_20

set_option maxHeartbeats 4000000 in
set_option maxRecDepth 100000 in
theorem c_L_endingByThrows (l : Launch) (hl0 : l.stackTraces = false) (dC : Nat → ClassId) (dI : Nat → Nat → Nat) (cyI cyJ : ClassId) (tb ax a0 a1 ae aw at_ : Nat) (pI tI mk wn cnt : Int32) (wf : Nat → Int32) (kk : Nat) (v1 v2 v3 : Int32) (aL : Nat) (oF : Nat → Int64) (hnd : [aL].Nodup) : vx_Met l yL_endingByThrows wsL_endingByThrows ({ frames := 21, cells := 4, slots := 24, locals := 623 }) (zPc [.ref ax, .int v1, .int v2, .int v3, .ref aL] (dC, dI) vwCl [(cyI, .int), (cyJ, .long)] [(ax, .inr (2, [.ref a0, .ref a1, .ref ae, .ref aw, .int pI, .int tI, .int mk, .int wn, .int cnt])), (ae, .inr (0, [.ref at_, .int (nI kk)])), (at_, .inl (cyI, 13500, .inl wf)), (aL, .inl (cyJ, 1, .inr (.inl oF)))] (fun U => zH tb (zA [aL]) U U.heap)) (va_Qi (fun (r : Int32) (u : Nat → Int64) => (∃ r9 : Int32, r = 0 ∧ (fun (r : Int32) (_ : Unit) => ∃ a b rr : Nat, a ≤ 14 ∧ b ≤ 14 ∧ rr ≤ 5 ∧ v1 = nI a ∧ v2 = nI b ∧ v3 = nI rr ∧ ¬ (a = b ∧ zshr a = true) ∧ r = nI (zE rr a b)) r9 () ∧ u 0 = r9.toInt64) ∨ (r = 1 ∧ ¬ (zEnd v1 v2 ∧ (0 ≤ v3 ∧ v3 ≤ 5)))) (fun (u : Nat → Int64) t => va_P (dC, dI) vwCl ([(aL, .inl (cyJ, 1, .inr (.inl u)))]) t.heap) (zA [aL])) (vx_X (fun (_ : Unit) => False) (fun (_ : String) _ _ => True) zF) 4 24 (zA [aL]) := by
  refine vx_ofWH (cc := cL_endingByThrows) (maxL := 6) (ret := (some .int)) (hh := [(0, 12, 15, 13)]) (by decide) rfl ?_
  intro p e s m args below meth c s₁ B hml hv
  obtain ⟨rfl, hP, hK, hX⟩ := hv
  have hx := B.exec
  have hb := B.bytes
  have hr := B.returns
  have hts := atoms_spec (ws := wsL_endingByThrows) B.pre
  have hown : s.vm.findClass RL = some m.cls := findClass_of_methodNamed B.named
  have hlocks := B.notSynchronized
  have hex : c.exceptionTable.toList = [⟨0, 12, 15, 13⟩] := (vx_table (x := yL_endingByThrows) B (hts _ List.mem_cons_self)).trans rfl
  have hl := lv_entry ([.ref ax, .int v1, .int v2, .int v3, .ref aL]) (n := 6) (Nat.le_of_ble_eq_true rfl)
  rw [lg_entry_eq]
  generalize (lg_sl ([.ref ax, .int v1, .int v2, .int v3, .ref aL]) ++ List.replicate (6 - (lg_sl ([.ref ax, .int v1, .int v2, .int v3, .ref aL])).length) Slot.unset).toArray = ls at hl ⊢
  have hl : lv_has ls 6 [(0, .ref ax), (1, .int v1), (2, .int v2), (3, .int v3), (4, .ref aL)] := hl
  have hS : va_S (zA [aL]) s.heap s.heap [] := va_S.rf
  have hDD : zD (zA [aL]) [aL] := ⟨hnd, fun _ h => h⟩
  refine lv_aload hx hb dL_endingByThrows_0 (lv_at hl 4 rfl) ?_
  refine lv_iconst (v := 0) hx hb dL_endingByThrows_2 (by decide) ?_
  refine lv_aload_n hx hb dL_endingByThrows_3 rfl (lv_at hl 0 rfl) ?_
  refine lv_iload_n hx hb dL_endingByThrows_4 rfl (lv_at hl 1 rfl) ?_
  refine lv_iload_n hx hb dL_endingByThrows_5 rfl (lv_at hl 2 rfl) ?_
  refine lv_iload_n hx hb dL_endingByThrows_6 rfl (lv_at hl 3 rfl) ?_
  refine zwf_i (vx_runV (As := [.int v1, .int v2, .int v3]) (rest := [.int 0, .ref aL]) ⟨hx, hb, hml, hown, hts⟩ (c_X5_endingByThrows l hl0 dC dI cyI cyJ tb ax a0 a1 ae aw at_ pI tI mk wn cnt wf kk v1 v2 v3) (cwV 3 hts gL_endingByThrows_X5_endingByThrows rfl rfl rfl (by decide +kernel) ⟨Nat.le_of_ble_eq_true rfl, Nat.le_of_ble_eq_true rfl⟩) (zPc_V (ci := 2) (q0 := 0) zB_G hP hK rfl rfl [0, 1, 2] rfl (zG_at hX.1 hS zF_A)) rfl rfl hl.1 rfl (lv_room (Nat.le_of_ble_eq_true rfl)) dL_endingByThrows_7 ⟨Nat.le_of_ble_eq_true rfl, Nat.le_of_ble_eq_true rfl⟩) hP hS (fun E ce q9 H locs hE hP hS hce hcv hcl => ?_) (fun r9 H locs hw hP hS => ?_)
  · skip
    have hP : va_P (dC, dI) vwCl [(ax, .inr (2, [.ref a0, .ref a1, .ref ae, .ref aw, .int pI, .int tI, .int mk, .int wn, .int cnt])), (ae, .inr (0, [.ref at_, .int (nI kk)])), (at_, .inl (cyI, 13500, .inl wf)), (aL, .inl (cyJ, 1, .inr (.inl oF)))] H := hP
    obtain ⟨rfl, hE⟩ := hE
    refine vx_catch (name := zIA) hown [] ⟨0, 12, 15, 13⟩ [] hex (fun z hz => by cases hz) (by decide) (by decide) (hts (.classLink RL 13 "java/lang/IllegalArgumentException") (List.mem_of_getElem? (i := 1) rfl)) (va_Nw.use rfl hX.1.2.2.2.2.2.2.1) hce hcv hcl ?_
    refine lv_astore (lv' := [(5, .ref q9), (0, .ref ax), (1, .int v1), (2, .int v2), (3, .int v3), (4, .ref aL)]) hx hb dL_endingByThrows_15 hl (by decide) rfl (fun ls hl => ?_)
    refine lv_iconst (v := 1) hx hb dL_endingByThrows_17 (by decide) ?_
    refine vx_ret (mc := 4) (ms := 24) ?_
    refine W.widen (k := 4) (n := 24) (Nat.le_of_ble_eq_true rfl) (Nat.le_of_ble_eq_true rfl) ?_
    exact W.iret (v := 1) hx hb hr (fun t ht hW => ⟨⟨_, oF, rfl, Or.inr ⟨rfl, hE⟩, zh ht (hP.sub [3] rfl)⟩, hS.F ht⟩) hS.2.2 dL_endingByThrows_18
  · skip
    have hP : va_P (dC, dI) vwCl [(ax, .inr (2, [.ref a0, .ref a1, .ref ae, .ref aw, .int pI, .int tI, .int mk, .int wn, .int cnt])), (ae, .inr (0, [.ref at_, .int (nI kk)])), (at_, .inl (cyI, 13500, .inl wf)), (aL, .inl (cyJ, 1, .inr (.inl oF)))] H := hP
    refine lv_i2l (v := (r9 : Int32).toInt64) hx hb dL_endingByThrows_10 rfl ?_
    have hP : va_P (dC, dI) vwCl [(aL, .inl (cyJ, 1, .inr (.inl oF)))] H := hP.sub [3] rfl
    refine zi_last hx hb hK hP hDD hS 0 1 rfl rfl (j := 0) rfl (by omega) (by decide) dL_endingByThrows_11 (fun H locs hP hS => ?_)
    have hP : va_P (dC, dI) vwCl [(aL, .inl (cyJ, 1, .inr (.inl (vp_updL oF 0 ((r9 : Int32).toInt64)))))] H := hP
    refine lv_goto (tgt := 19) hx hb dL_endingByThrows_12 (by decide) ?_
    refine lv_iconst (v := 0) hx hb dL_endingByThrows_19 (by decide) ?_
    refine vx_ret (mc := 4) (ms := 24) ?_
    refine W.widen (k := 4) (n := 24) (Nat.le_of_ble_eq_true rfl) (Nat.le_of_ble_eq_true rfl) ?_
    exact W.iret (v := 0) hx hb hr (fun t ht hW => ⟨⟨_, (vp_updL oF 0 ((r9 : Int32).toInt64)), rfl, Or.inl ⟨r9, rfl, hw, (show (vp_updL oF 0 ((r9 : Int32).toInt64)) 0 = (r9 : Int32).toInt64 from if_pos rfl)⟩, zh ht hP⟩, hS.F ht⟩) hS.2.2 dL_endingByThrows_20


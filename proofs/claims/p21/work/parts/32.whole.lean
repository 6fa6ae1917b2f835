/-! the start of the law: what the tables give -/
theorem zl_G {b : Nat} {s : State} (hts : ∀ w ∈ lw_tbl, w.before #[Value.ref b] s = true) (hgv : (Jvm.Cond.and given_1 narrow_1).before #[Value.ref b] s = true) : ∃ tb : Nat, zG tb (fun q : Nat => s.heap.size ≤ q) s s.heap := by
  have hq := flat_of_before _ hgv
  have hA : ∀ a : Nat, a < s.heap.size → ¬ (fun q : Nat => s.heap.size ≤ q) a := fun a h => Nat.not_le.mpr h
  obtain ⟨tb, e1, hT⟩ := va_Tof (A := (fun q : Nat => s.heap.size ≤ q)) (args := #[Value.ref b]) (s := s) (tm := .static "RoyalUrTable$Dice" "TIMES_IN_16" "[I") (ty := .int) (N := 5) (f := ztv) (by decide) (hq _ (by decide +kernel)) (va_eqt (z := 5) (hq _ (by decide +kernel)))
    (fun j hj => by
      rcases (show j = 0 ∨ j = 1 ∨ j = 2 ∨ j = 3 ∨ j = 4 by omega) with rfl | rfl | rfl | rfl | rfl
      · exact va_eqt (t := .elem (.static "RoyalUrTable$Dice" "TIMES_IN_16" "[I") (.int 0)) (z := 1) (hq _ (by decide +kernel))
      · exact va_eqt (t := .elem (.static "RoyalUrTable$Dice" "TIMES_IN_16" "[I") (.int 1)) (z := 4) (hq _ (by decide +kernel))
      · exact va_eqt (t := .elem (.static "RoyalUrTable$Dice" "TIMES_IN_16" "[I") (.int 2)) (z := 6) (hq _ (by decide +kernel))
      · exact va_eqt (t := .elem (.static "RoyalUrTable$Dice" "TIMES_IN_16" "[I") (.int 3)) (z := 4) (hq _ (by decide +kernel))
      · exact va_eqt (t := .elem (.static "RoyalUrTable$Dice" "TIMES_IN_16" "[I") (.int 4)) (z := 1) (hq _ (by decide +kernel))) hA
  have hZ := va_Zref (A := (fun q : Nat => s.heap.size ≤ q)) (hts (.laysStatic "RoyalUrTable$Dice" "TIMES_IN_16" "[I") (by decide +kernel)) (hts (.initialized "RoyalUrTable$Dice") (by decide +kernel)) e1 hA
  have hU := vx_Zqof (A := (fun q : Nat => s.heap.size ≤ q)) (hts (.laysStatic Bundle.tN "UNASSIGNED_STACK" Bundle.steD) (by decide +kernel)) (hts (.initialized Bundle.tN) (by decide +kernel)) (hq (.isRef (.static Bundle.tN "UNASSIGNED_STACK" Bundle.steD)) (by decide +kernel)) hA
  have hN := vx_Zqof (A := (fun q : Nat => s.heap.size ≤ q)) (hts (.laysStatic Bundle.tN "SUPPRESSED_SENTINEL" Bundle.listD) (by decide +kernel)) (hts (.initialized Bundle.tN) (by decide +kernel)) (hq (.isRef (.static Bundle.tN "SUPPRESSED_SENTINEL" Bundle.listD)) (by decide +kernel)) hA
  exact ⟨tb, ⟨hZ, hT⟩, hU, hN, va_Nw.of rfl (hts (.declares (Bundle.init0 "java/lang/RuntimeException")) (by decide +kernel)), va_Nw.of rfl (hts (.declares (Bundle.init0 "java/lang/Exception")) (by decide +kernel)), va_Nw.of rfl (hts (.declares (Bundle.init0 Bundle.tN)) (by decide +kernel)), va_Nw.of rfl (hts (.castable zIA zIA) (by decide +kernel)), va_Nw.of rfl (hts (.castable zIS zIS) (by decide +kernel))⟩
theorem zl_arr {b : Nat} {s : State} {ty : FieldType} (h : (Cond.arrayClass ty).before #[Value.ref b] s = true) (hra : ∀ x : ClassId, s.vm.findClass ("[" ++ ty.toString) = some x → va_RA s x ty) : ∃ cA : ClassId, ArrOfT s cA ty ∧ va_RA s cA ty := by
  obtain ⟨cA, kA, comp, h1, h2, h3⟩ := Cond.arrayClass_spec h
  exact ⟨cA, fun n z => ⟨fun k h => (by cases h), kA, h2, comp, h3⟩, hra cA h1⟩
theorem zl_link {b : Nat} {s : State} (hts : ∀ w ∈ lw_tbl, w.before #[Value.ref b] s = true) : va_Nw (.methodLinkNest RX5 9 yX3_init "RoyalUrTable") s := va_Nw.of rfl (hts (.methodLinkNest RX5 9 yX3_init "RoyalUrTable") (by decide +kernel))
/-! THE CLAIM OUT OF ONE WALK OF THE LAW'S BODY. Your part is whole_start (and what it stands on); all else here is the same for every law, but numbers. -/
def R_law : String := "RoyalUrTableLaw"
def lw_P (b : Addr) (xs : List Int32) (args : Array Value) (s : State) : Prop := args = #[.ref b] ∧ s.IntsAt b xs ∧ xs.length ≤ 260 ∧ (Jvm.Cond.and given_1 narrow_1).before args s = true
/-- what a walk over the start with the record d0 says of its end, said of the start itself -/
theorem lw_closed {s t : State} {o : Outcome} {d0 : Drawn} {L : List Loc} {k n : Nat} (hd0 : s.drawn.sameBut d0 lw_cs) (hv : ∃ v, o = .returned v) (hW : (s.setDrawn d0).WarmedH t.vm) (hs : (s.setDrawn d0).sameButNew ({ t with vm := s.vm } : State) L k n) : State.butDraws s t lw_cs (fun t1 => Framed s o t1 L k n) := by
  have h2 : t.drawn = d0 := congrArg State.drawn hs.1
  refine ⟨⟨hv, hW, State.sameButNew.setDrawn hs s.drawn⟩, ?_, by decide⟩
  rw [h2]
  exact hd0
def lw_Q (_ : Array Value) (s : State) (o : Outcome) (t : State) : Prop := o = .returned (some (.int 1)) ∧ State.butDraws s t lw_cs (fun t1 => Framed s o t1 [] 600130 7301080)
def lw_Z (below : List Frame) (a : Array Value) (s : State) : State → Prop := fun t => ∃ o, t.status = .running ∧ Ended t below o ∧ lw_Q a s o t
/-- the law's own end, with 1 on the stack, nothing written that was there before, its room as the claim has it; d0: the record of draws at this point (at the entry s.drawn: begin with 'refine W.base ?_' and 'have hd0 := Drawn.sameBut.refl s.drawn lw_cs') -/
theorem lw_ret {p : Program} {l : Launch} {e : Env} {s : State} {m : MethodId} {below : List Frame} {meth : Method} {c : Code} {b : Nat} {d0 : Drawn} (hd0 : s.drawn.sameBut d0 lw_cs) (hx : p.tables.exec = Jvm.exec) (hb : c.code = code) (hr : meth.sig.returnType = ret) (hlocks : meth.locks = false) {pc : Nat} {H : Heap} {ls : Array Slot} (hdg : decode code pc = .ok (.ireturn, 1)) : W p l e room_1 (s.setDrawn d0) m #[Value.ref b] below meth c H [] 600130 7301080 (lw_Z below #[Value.ref b] s) (F0 m pc ls [.int 1]) := by
  intro T hT X
  obtain ⟨fs, hret, hrun, hended, hW, hframe⟩ := X.leave (v := some (.int 1)) (hlocks := hlocks) (fun h => by rw [hr] at h; cases h)
  have hmeth' : T.vm.method? m = some meth := X.method'
  refine ⟨T.setFrames fs, ?_, .returned (some (.int 1)), hrun, hended, rfl, lw_closed hd0 ⟨_, rfl⟩ hW hframe⟩
  jvm_step X.here [X.here.top, hx, hb, hdg, hmeth', hr, ret, narrow_b1]
  (try refine ⟨rfl, ?_⟩); (try refine ⟨rfl, ?_⟩)
  first | (intro acts; rw [hret _ acts rfl rfl rfl]) | rw [hret _ _ rfl rfl rfl]
  exact Steps.refl _
/-- what holds at the law's entry: the machine, the code, the tables' words (any of lw_tbl by 'hts w (by decide +kernel)'), the script of L ints xs at the cell b, what the Statement gives of the start (any of its parts by flat_of_before) -/
def lw_At (p : Program) (s : State) (m : MethodId) (meth : Method) (c : Code) (b L : Nat) (xs : Nat → Int32) : Prop :=
  p.tables.exec = Jvm.exec ∧ c.code = code ∧ meth.sig.returnType = ret ∧ c.maxLocals = 9 ∧ s.vm.findClass R_law = some m.cls ∧ (∀ w ∈ lw_tbl, w.before #[Value.ref b] s = true) ∧ va_X b L xs s s.heap ∧ b < s.heap.size ∧ meth.locks = false ∧ (Jvm.Cond.and given_1 narrow_1).before #[Value.ref b] s = true
-- ===== YOUR PART BEGINS =====
set_option maxHeartbeats 4000000 in
set_option maxRecDepth 100000 in
/-- YOUR PART: from the entry, for every script of at most 260 ints, the law comes to its end with true ('hflags': the launch's flags, for a law that throws: no stack traces) -/
theorem whole_start {p : Program} {e : Env} {s : State} {m : MethodId} {below : List Frame} {meth : Method} {c : Code} (l : Launch) (hflags : l.flags = flags0) {b L : Nat} {xs : Nat → Int32} (hL : L ≤ 260) (C0 : lw_At p s m meth c b L xs) : W p l e room_1 s m #[Value.ref b] below meth c s.heap [] 0 0 (lw_Z below #[Value.ref b] s) (entryFrame m ([Value.ref b] : List Value).toArray 9) := by
  
  obtain ⟨hx, hb, hr, hml, hown, htsT, hX, hbl, hlocks, hgv⟩ := id C0
  have hl0 : l.stackTraces = false := by unfold Launch.stackTraces; rw [hflags]; decide +kernel
  have hd0 := Drawn.sameBut.refl s.drawn lw_cs
  have hown : s.vm.findClass RL = some m.cls := hown
  have hb : c.code = cL_law := hb
  have hts : ∀ w ∈ wsL_law, w.before #[Value.ref b] s = true := fun w h => htsT w (wsL_law_in w h)
  obtain ⟨tb, hH⟩ := zl_G htsT hgv
  obtain ⟨c0, i0, hK0⟩ := u_known (C := RX1) (T := TX1) (N := 2) (n := 2) hts inlX1 (hts (.instantiable RX1 2) (by decide +kernel))
  obtain ⟨c1, i1, hK1⟩ := u_known (C := RX3) (T := TX3) (N := 2) (n := 2) hts inlX3 (hts (.instantiable RX3 2) (by decide +kernel))
  obtain ⟨c2, i2, hK2⟩ := u_known (C := RX5) (T := TX5) (N := 9) (n := 9) hts inlX5 (hts (.instantiable RX5 9) (by decide +kernel))
  obtain ⟨dC, dI, hKc⟩ : ∃ (dC : Nat → ClassId) (dI : Nat → Nat → Nat), ∀ (k : Nat) (q : vw_C), vwCl[k]? = some q → u_Kn s q.1 q.2.1 q.2.2 (dC k) (dI k) := by
    refine ⟨fun k => if k = 0 then c0 else if k = 1 then c1 else c2, fun k => if k = 0 then i0 else if k = 1 then i1 else i2, ?_⟩
    intro k q hq
    match k, hq with
    | 0, hq => cases hq; exact hK0
    | 1, hq => cases hq; exact hK1
    | 2, hq => cases hq; exact hK2
    | k + 3, hq => simp [vwCl] at hq
  obtain ⟨cyI, hI1, hI2⟩ := zl_arr (htsT (.arrayClass .int) (by decide +kernel)) (fun _ h => h)
  have hK : va_K (dC, dI) vwCl [(cyI, .int)] s := ⟨hKc, fun k q h => by
    match k, h with
    | 0, h => cases h; exact ⟨hI1, hI2⟩
    | k + 1, h => simp at h⟩
  generalize hAe : (fun q : Nat => s.heap.size ≤ q) = A at hH
  have hA : ∀ q : Nat, s.heap.size ≤ q → A q := fun q h => by rw [← hAe]; exact h
  subst hAe
  have hS : va_S (fun q : Nat => s.heap.size ≤ q) s.heap s.heap [] := va_S.rf
  have hP : va_P (dC, dI) vwCl [] s.heap := fun k q h => by simp at h
  have hD : va_D (fun q : Nat => s.heap.size ≤ q) [] := ⟨fun i j p q h => by simp at h, fun k q h => by simp at h⟩
  have KE : ∀ (H : Heap) (locs : List Loc) (ls : Array Slot), va_S (fun q : Nat => s.heap.size ≤ q) s.heap H locs → W p l e room_1 s m #[Value.ref b] below meth c H locs 600130 7301080 (lw_Z below #[Value.ref b] s) (F0 m 201 ls []) := by
    intro H locs ls hS
    refine va_forget (fun q hq => hS.2.2 q hq) ?_
    refine lv_iconst (v := 1) hx hb dL_law_201 (by decide) ?_
    exact lw_ret hd0 hx hb hr hlocks dL_law_202
  have hl := lv_entry ([.ref b]) (n := 9) (Nat.le_of_ble_eq_true rfl)
  rw [lg_entry_eq]
  generalize (lg_sl ([.ref b]) ++ List.replicate (9 - (lg_sl ([.ref b])).length) Slot.unset).toArray = ls at hl ⊢
  have hl : lv_has ls 9 [(0, .ref b)] := hl
  refine va_new (ci := 2) (fs := [.null, .null, .null, .null, .int 0, .int 0, .int 0, .int 0, .int 0]) (C := RX5) (T := TX5) (N := 9) hx hb hts inlX5 tyX5 tyX5_ok hown (hts (.classLink RL 11 RX5) (by decide +kernel)) (hts (.instantiable RX5 9) (by decide +kernel)) (hts (.initialized RX5) (by decide +kernel)) hK hP hD hS hA rfl (fun j hj => by rcases (show j = 0 ∨ j = 1 ∨ j = 2 ∨ j = 3 ∨ j = 4 ∨ j = 5 ∨ j = 6 ∨ j = 7 ∨ j = 8 by omega) with rfl | rfl | rfl | rfl | rfl | rfl | rfl | rfl | rfl <;> rfl) (by decide +kernel) (by decide +kernel) dL_law_0 (fun ax H hP hD hS => ?_)
  have hP : va_P (dC, dI) vwCl [(ax, .inr (2, [.null, .null, .null, .null, .int 0, .int 0, .int 0, .int 0, .int 0]))] H := hP
  have hD : va_D (fun q : Nat => s.heap.size ≤ q) [(ax, .inr (2, [.null, .null, .null, .null, .int 0, .int 0, .int 0, .int 0, .int 0]))] := hD
  refine lv_dup hx hb dL_law_3 rfl ?_
  have hFc := va_free (wc := [(ax, .inr (2, [.null, .null, .null, .null, .int 0, .int 0, .int 0, .int 0, .int 0]))]) hD hS hA [0] rfl
  have hPc := hP.sub (ws' := [(ax, .inr (2, [.null, .null, .null, .null, .int 0, .int 0, .int 0, .int 0, .int 0]))]) [0] rfl
  refine va_callv (va_runI (As := []) (rest := [.ref ax]) ⟨hx, hb, hml, hown, hts⟩ (c_X5_init l dC dI cyI cyI ax H.size) (cwI 0 hts gL_law_X5_init rfl rfl rfl (hts (.initialized RX5) (by decide +kernel)) (hts (.methodLink RL 120 yX5_init) (by decide +kernel)) (hts (.instanceMethod yX5_init) (by decide +kernel)) rfl (by decide +kernel) ⟨by decide +kernel, by decide +kernel⟩) ⟨fun a U g mk q => ⟨q.1, q.2.1, q.2.2.1, va_K.moved (u := U) (U := U.calling g mk a) (Vm.Alike.refl U.vm) q.2.2.2.1, va_Nw.same rfl rfl q.2.2.2.2⟩, fun U hU hW => ⟨rfl, by rw [hU], by rw [hU]; exact hPc, va_K.moved hW.alike hK, va_Nw.warmM hW (zl_link htsT)⟩⟩ rfl rfl hl.1 rfl (lv_room (Nat.le_of_ble_eq_true rfl)) dL_law_4 ⟨by decide +kernel, by decide +kernel⟩) hS (fun q _ h => hFc q h) hFc (fun u t H1 locs ht9 hvm hw hB hz1 hk1 hS => ?_)
  obtain ⟨a0, a1, ae, at_, aw, hP1, hD1⟩ := hB
  rw [ht9] at hP1
  obtain ⟨hP, hD⟩ := va_join (wr := []) (w1 := [(ax, .inr (2, [.ref a0, .ref a1, .ref ae, .ref aw, .int (nI 2), .int 0, .int (-1), .int (-1), .int 0])), (a0, .inr (1, [.long (lN 2), .int 0])), (a1, .inr (1, [.long (lN 2), .int 0])), (ae, .inr (0, [.ref at_, .int 0])), (at_, .inl (cyI, 13500, .inl (fun _ => 0))), (aw, .inl (cyI, 15, .inl (fun _ => 0)))]) hP hD [0] [] rfl rfl (by decide) (by decide) hk1 hFc hP1 hD1
  generalize H1 = H at hP hS ⊢
  have hP : va_P (dC, dI) vwCl [(ax, .inr (2, [.ref a0, .ref a1, .ref ae, .ref aw, .int (nI 2), .int 0, .int (-1), .int (-1), .int 0])), (a0, .inr (1, [.long (lN 2), .int 0])), (a1, .inr (1, [.long (lN 2), .int 0])), (ae, .inr (0, [.ref at_, .int 0])), (at_, .inl (cyI, 13500, .inl (fun _ => 0))), (aw, .inl (cyI, 15, .inl (fun _ => 0)))] H := hP
  have hD : va_D (fun q : Nat => s.heap.size ≤ q) [(ax, .inr (2, [.ref a0, .ref a1, .ref ae, .ref aw, .int (nI 2), .int 0, .int (-1), .int (-1), .int 0])), (a0, .inr (1, [.long (lN 2), .int 0])), (a1, .inr (1, [.long (lN 2), .int 0])), (ae, .inr (0, [.ref at_, .int 0])), (at_, .inl (cyI, 13500, .inl (fun _ => 0))), (aw, .inl (cyI, 15, .inl (fun _ => 0)))] := hD
  refine lv_astore_n (lv' := [(1, .ref ax), (0, .ref b)]) hx hb dL_law_7 rfl hl (by decide) rfl (fun ls hl => ?_)
  refine lv_bipush (v := 32) hx hb dL_law_8 (by decide) ?_
  refine zi_newa (atype := .int) (ty := .int) (a0 := (32, .inl (fun _ => 0))) (N' := 32) hx hb (hts (.arrayClass .int) (by decide +kernel)) rfl hK 0 rfl (fun _ h => h) hP hD hS hA (fun _ => rfl) (by decide +kernel) (by decide +kernel) (by decide +kernel) (by decide +kernel) (by decide +kernel) dL_law_10 (fun rx H hP hD hS => ?_)
  have hP : va_P (dC, dI) vwCl [(ax, .inr (2, [.ref a0, .ref a1, .ref ae, .ref aw, .int (nI 2), .int 0, .int (-1), .int (-1), .int 0])), (a0, .inr (1, [.long (lN 2), .int 0])), (a1, .inr (1, [.long (lN 2), .int 0])), (ae, .inr (0, [.ref at_, .int 0])), (at_, .inl (cyI, 13500, .inl (fun _ => 0))), (aw, .inl (cyI, 15, .inl (fun _ => 0))), (rx, .inl (cyI, 32, .inl (fun _ => 0)))] H := hP
  have hD : va_D (fun q : Nat => s.heap.size ≤ q) [(ax, .inr (2, [.ref a0, .ref a1, .ref ae, .ref aw, .int (nI 2), .int 0, .int (-1), .int (-1), .int 0])), (a0, .inr (1, [.long (lN 2), .int 0])), (a1, .inr (1, [.long (lN 2), .int 0])), (ae, .inr (0, [.ref at_, .int 0])), (at_, .inl (cyI, 13500, .inl (fun _ => 0))), (aw, .inl (cyI, 15, .inl (fun _ => 0))), (rx, .inl (cyI, 32, .inl (fun _ => 0)))] := hD
  refine lv_astore_n (lv' := [(2, .ref rx), (1, .ref ax), (0, .ref b)]) hx hb dL_law_12 rfl hl (by decide) rfl (fun ls hl => ?_)
  refine lv_bipush (v := 32) hx hb dL_law_13 (by decide) ?_
  refine zi_newa (atype := .int) (ty := .int) (a0 := (32, .inl (fun _ => 0))) (N' := 32) hx hb (hts (.arrayClass .int) (by decide +kernel)) rfl hK 0 rfl (fun _ h => h) hP hD hS hA (fun _ => rfl) (by decide +kernel) (by decide +kernel) (by decide +kernel) (by decide +kernel) (by decide +kernel) dL_law_15 (fun ry H hP hD hS => ?_)
  have hP : va_P (dC, dI) vwCl [(ax, .inr (2, [.ref a0, .ref a1, .ref ae, .ref aw, .int (nI 2), .int 0, .int (-1), .int (-1), .int 0])), (a0, .inr (1, [.long (lN 2), .int 0])), (a1, .inr (1, [.long (lN 2), .int 0])), (ae, .inr (0, [.ref at_, .int 0])), (at_, .inl (cyI, 13500, .inl (fun _ => 0))), (aw, .inl (cyI, 15, .inl (fun _ => 0))), (rx, .inl (cyI, 32, .inl (fun _ => 0))), (ry, .inl (cyI, 32, .inl (fun _ => 0)))] H := hP
  have hD : va_D (fun q : Nat => s.heap.size ≤ q) [(ax, .inr (2, [.ref a0, .ref a1, .ref ae, .ref aw, .int (nI 2), .int 0, .int (-1), .int (-1), .int 0])), (a0, .inr (1, [.long (lN 2), .int 0])), (a1, .inr (1, [.long (lN 2), .int 0])), (ae, .inr (0, [.ref at_, .int 0])), (at_, .inl (cyI, 13500, .inl (fun _ => 0))), (aw, .inl (cyI, 15, .inl (fun _ => 0))), (rx, .inl (cyI, 32, .inl (fun _ => 0))), (ry, .inl (cyI, 32, .inl (fun _ => 0)))] := hD
  refine lv_astore_n (lv' := [(3, .ref ry), (2, .ref rx), (1, .ref ax), (0, .ref b)]) hx hb dL_law_17 rfl hl (by decide) rfl (fun ls hl => ?_)
  refine lv_bipush (v := 32) hx hb dL_law_18 (by decide) ?_
  refine zi_newa (atype := .int) (ty := .int) (a0 := (32, .inl (fun _ => 0))) (N' := 32) hx hb (hts (.arrayClass .int) (by decide +kernel)) rfl hK 0 rfl (fun _ h => h) hP hD hS hA (fun _ => rfl) (by decide +kernel) (by decide +kernel) (by decide +kernel) (by decide +kernel) (by decide +kernel) dL_law_20 (fun rz H hP hD hS => ?_)
  have hP : va_P (dC, dI) vwCl [(ax, .inr (2, [.ref a0, .ref a1, .ref ae, .ref aw, .int (nI 2), .int 0, .int (-1), .int (-1), .int 0])), (a0, .inr (1, [.long (lN 2), .int 0])), (a1, .inr (1, [.long (lN 2), .int 0])), (ae, .inr (0, [.ref at_, .int 0])), (at_, .inl (cyI, 13500, .inl (fun _ => 0))), (aw, .inl (cyI, 15, .inl (fun _ => 0))), (rx, .inl (cyI, 32, .inl (fun _ => 0))), (ry, .inl (cyI, 32, .inl (fun _ => 0))), (rz, .inl (cyI, 32, .inl (fun _ => 0)))] H := hP
  have hD : va_D (fun q : Nat => s.heap.size ≤ q) [(ax, .inr (2, [.ref a0, .ref a1, .ref ae, .ref aw, .int (nI 2), .int 0, .int (-1), .int (-1), .int 0])), (a0, .inr (1, [.long (lN 2), .int 0])), (a1, .inr (1, [.long (lN 2), .int 0])), (ae, .inr (0, [.ref at_, .int 0])), (at_, .inl (cyI, 13500, .inl (fun _ => 0))), (aw, .inl (cyI, 15, .inl (fun _ => 0))), (rx, .inl (cyI, 32, .inl (fun _ => 0))), (ry, .inl (cyI, 32, .inl (fun _ => 0))), (rz, .inl (cyI, 32, .inl (fun _ => 0)))] := hD
  refine lv_astore (lv' := [(4, .ref rz), (3, .ref ry), (2, .ref rx), (1, .ref ax), (0, .ref b)]) hx hb dL_law_22 hl (by decide) rfl (fun ls hl => ?_)
  refine lv_bipush (v := 7) hx hb dL_law_24 (by decide) ?_
  refine zi_newa (atype := .int) (ty := .int) (a0 := (7, .inl (fun _ => 0))) (N' := 7) hx hb (hts (.arrayClass .int) (by decide +kernel)) rfl hK 0 rfl (fun _ h => h) hP hD hS hA (fun _ => rfl) (by decide +kernel) (by decide +kernel) (by decide +kernel) (by decide +kernel) (by decide +kernel) dL_law_26 (fun rq H hP hD hS => ?_)
  have hP : va_P (dC, dI) vwCl [(ax, .inr (2, [.ref a0, .ref a1, .ref ae, .ref aw, .int (nI 2), .int 0, .int (-1), .int (-1), .int 0])), (a0, .inr (1, [.long (lN 2), .int 0])), (a1, .inr (1, [.long (lN 2), .int 0])), (ae, .inr (0, [.ref at_, .int 0])), (at_, .inl (cyI, 13500, .inl (fun _ => 0))), (aw, .inl (cyI, 15, .inl (fun _ => 0))), (rx, .inl (cyI, 32, .inl (fun _ => 0))), (ry, .inl (cyI, 32, .inl (fun _ => 0))), (rz, .inl (cyI, 32, .inl (fun _ => 0))), (rq, .inl (cyI, 7, .inl (fun _ => 0)))] H := hP
  have hD : va_D (fun q : Nat => s.heap.size ≤ q) [(ax, .inr (2, [.ref a0, .ref a1, .ref ae, .ref aw, .int (nI 2), .int 0, .int (-1), .int (-1), .int 0])), (a0, .inr (1, [.long (lN 2), .int 0])), (a1, .inr (1, [.long (lN 2), .int 0])), (ae, .inr (0, [.ref at_, .int 0])), (at_, .inl (cyI, 13500, .inl (fun _ => 0))), (aw, .inl (cyI, 15, .inl (fun _ => 0))), (rx, .inl (cyI, 32, .inl (fun _ => 0))), (ry, .inl (cyI, 32, .inl (fun _ => 0))), (rz, .inl (cyI, 32, .inl (fun _ => 0))), (rq, .inl (cyI, 7, .inl (fun _ => 0)))] := hD
  refine lv_astore (lv' := [(5, .ref rq), (4, .ref rz), (3, .ref ry), (2, .ref rx), (1, .ref ax), (0, .ref b)]) hx hb dL_law_28 hl (by decide) rfl (fun ls hl => ?_)
  refine lv_bipush (v := 15) hx hb dL_law_30 (by decide) ?_
  refine zi_newa (atype := .int) (ty := .int) (a0 := (15, .inl (fun _ => 0))) (N' := 15) hx hb (hts (.arrayClass .int) (by decide +kernel)) rfl hK 0 rfl (fun _ h => h) hP hD hS hA (fun _ => rfl) (by decide +kernel) (by decide +kernel) (by decide +kernel) (by decide +kernel) (by decide +kernel) dL_law_32 (fun ru H hP hD hS => ?_)
  have hP : va_P (dC, dI) vwCl [(ax, .inr (2, [.ref a0, .ref a1, .ref ae, .ref aw, .int (nI 2), .int 0, .int (-1), .int (-1), .int 0])), (a0, .inr (1, [.long (lN 2), .int 0])), (a1, .inr (1, [.long (lN 2), .int 0])), (ae, .inr (0, [.ref at_, .int 0])), (at_, .inl (cyI, 13500, .inl (fun _ => 0))), (aw, .inl (cyI, 15, .inl (fun _ => 0))), (rx, .inl (cyI, 32, .inl (fun _ => 0))), (ry, .inl (cyI, 32, .inl (fun _ => 0))), (rz, .inl (cyI, 32, .inl (fun _ => 0))), (rq, .inl (cyI, 7, .inl (fun _ => 0))), (ru, .inl (cyI, 15, .inl (fun _ => 0)))] H := hP
  have hD : va_D (fun q : Nat => s.heap.size ≤ q) [(ax, .inr (2, [.ref a0, .ref a1, .ref ae, .ref aw, .int (nI 2), .int 0, .int (-1), .int (-1), .int 0])), (a0, .inr (1, [.long (lN 2), .int 0])), (a1, .inr (1, [.long (lN 2), .int 0])), (ae, .inr (0, [.ref at_, .int 0])), (at_, .inl (cyI, 13500, .inl (fun _ => 0))), (aw, .inl (cyI, 15, .inl (fun _ => 0))), (rx, .inl (cyI, 32, .inl (fun _ => 0))), (ry, .inl (cyI, 32, .inl (fun _ => 0))), (rz, .inl (cyI, 32, .inl (fun _ => 0))), (rq, .inl (cyI, 7, .inl (fun _ => 0))), (ru, .inl (cyI, 15, .inl (fun _ => 0)))] := hD
  refine lv_astore (lv' := [(6, .ref ru), (5, .ref rq), (4, .ref rz), (3, .ref ry), (2, .ref rx), (1, .ref ax), (0, .ref b)]) hx hb dL_law_34 hl (by decide) rfl (fun ls hl => ?_)
  have hAl : zD (fun q : Nat => s.heap.size ≤ q) [ax, a0, a1, ae, at_, aw, rx, ry, rz, rq, ru] := zD_of hD
  have hDD : zD (fun q : Nat => s.heap.size ≤ q) [ax, a0, a1, ae, at_, aw, rx, ry, rz, rq, ru] := hAl
  refine lv_iconst (v := 2) hx hb dL_law_36 (by decide) ?_
  refine zz_i (y := nI 2) rfl ?_
  refine lv_aload_n hx hb dL_law_37 rfl (lv_at hl 4 rfl) ?_
  refine lv_aload hx hb dL_law_38 (lv_at hl 1 rfl) ?_
  refine zrw_v (w1 := fun u : (Nat → Int32) × (Nat → Int32) => [(rx, .inl (cyI, 32, .inl u.1)), (rq, .inl (cyI, 7, .inl u.2))]) (al := [rx, rq]) (va_runS (As := [.int (nI 2), .ref rx, .ref rq]) (rest := []) ⟨hx, hb, hml, hown, hts⟩ (c_L_begin l dC dI cyI cyI rx rq (fun _ => 0) (fun _ => 0) 2 (by decide) (z_nd hDD.1 [6, 9] (by decide) rfl)) (va_cwS 3 hts gL_law_L_begin rfl rfl rfl (by decide +kernel) ⟨Nat.le_of_ble_eq_true rfl, Nat.le_of_ble_eq_true rfl⟩) (zPc_S zB_T hP hK [6, 9] rfl (fun _ _ _ => trivial)) rfl rfl hl.1 rfl (lv_room (Nat.le_of_ble_eq_true rfl)) dL_law_40 ⟨by decide +kernel, by decide +kernel⟩) hP hDD hS [6, 9] rfl (fun _ => rfl) (fun u_40 H locs hw_40 hP hS => ?_)
  have hP : va_P (dC, dI) vwCl [(ax, .inr (2, [.ref a0, .ref a1, .ref ae, .ref aw, .int (nI 2), .int 0, .int (-1), .int (-1), .int 0])), (a0, .inr (1, [.long (lN 2), .int 0])), (a1, .inr (1, [.long (lN 2), .int 0])), (ae, .inr (0, [.ref at_, .int 0])), (at_, .inl (cyI, 13500, .inl (fun _ => 0))), (aw, .inl (cyI, 15, .inl (fun _ => 0))), (rx, .inl (cyI, 32, .inl u_40.1)), (ry, .inl (cyI, 32, .inl (fun _ => 0))), (rz, .inl (cyI, 32, .inl (fun _ => 0))), (rq, .inl (cyI, 7, .inl u_40.2)), (ru, .inl (cyI, 15, .inl (fun _ => 0)))] H := hP
  refine lv_iconst (v := 0) hx hb dL_law_43 (by decide) ?_
  refine lv_istore (lv' := [(7, .int 0), (6, .ref ru), (5, .ref rq), (4, .ref rz), (3, .ref ry), (2, .ref rx), (1, .ref ax), (0, .ref b)]) hx hb dL_law_44 hl (by decide) rfl (fun ls hl => ?_)
  refine W.widen (k := 11 + 4 * 0) (n := 13648 + 24 * 0) (by decide) (by decide) ?_
  exact law_loop (tb := tb) (xs := xs) ⟨hx, hb, hml, hown, hts, hX, hbl, hL, hl0, hK, hH, hAl⟩ KE 161 0 (Nat.zero_le _) (by omega) _ _ _ ⟨2, 0, 2, 2, 0, 0, a0, a1, (-1), (-1), 0, 0, 0, (fun _ => 0), (fun _ => 0), u_40.1, (fun _ => 0), (fun _ => 0), u_40.2, (fun _ => 0), ⟨(by decide), (Or.inl ⟨rfl, rfl, rfl⟩), (by decide), (fun r h1 h2 => absurd h2 (by omega)), ⟨zok_j (by decide) (by decide), zok_j (by decide) (by decide), zgd_0 (by decide), hw_40.1, Or.inr ⟨rfl, rfl⟩, by decide, Or.inl rfl, Or.inl rfl, fun h => absurd rfl h, hw_40.2⟩⟩, hP⟩ hS (lv_sub hl [0, 1, 2, 3, 4, 5, 6, 7] rfl)
-- ===== YOUR PART ENDS =====
set_option maxHeartbeats 4000000 in
theorem lw_walk (l : Launch) (hflags : l.flags = flags0) (b : Addr) (xs : List Int32) : MetFree l x (headSpec (Jvm.Cond.code x code maxLocals ret :: tables_1) room_1) (lw_P b xs) (fun _ _ _ _ _ => True) lw_Q := by
  refine MetFree.of_bodyS (code := code) (maxLocals := maxLocals) (ret := ret) (by decide) ?_ ?_
  · intro args s m h hn
    obtain ⟨meth, c, h1, h2, h3, h4, h5, h6, -, -⟩ := Cond.code_spec hn (atoms_spec (ws := Jvm.Cond.code x code maxLocals ret :: tables_1) h _ List.mem_cons_self)
    exact ⟨meth, c, h1, h2, h3, h4, h5, h6⟩
  · intro p e s m args below meth c s₁ B hml0 hP _
    obtain ⟨rfl, hx, hbd, hgv⟩ := hP
    obtain ⟨scr, harrAt, hlist, hof, hsmall⟩ := hx
    obtain ⟨hcb, hkn, -, -⟩ := State.arrayAt?_spec harrAt
    have hown : s.vm.findClass R_law = some m.cls := findClass_of_methodNamed B.named
    have hts0 : ∀ c ∈ (Jvm.Cond.code x code maxLocals ret :: tables_1), c.before #[Value.ref b] s = true := atoms_spec (ws := Jvm.Cond.code x code maxLocals ret :: tables_1) B.pre
    have hts : ∀ w ∈ lw_tbl, w.before #[Value.ref b] s = true := k2_hts_sels lw_privs (fun w hw => hts0 w (List.mem_cons_of_mem _ hw)) lw_privs_ok
    have hml : c.maxLocals = 9 := B.maxLocals_eq (hts0 _ List.mem_cons_self)
    have X₀ : Stand p l e room_1 s m #[Value.ref b] below meth c s₁ [] 0 0 := Stand.of_body B
    have hh0 : s₁.heap = s.heap := by rw [B.state]; rfl
    have hsz : scr.slots.size = xs.length := by rw [← Array.length_toList, hlist, List.length_map]
    have hval : ∀ j : Nat, j < xs.length → scr.slots[j]? = some (.int (xs.getD j 0)) := fun j hj => by
      rw [← Array.getElem?_toList, hlist]
      simp [hj]
    have hbl : b < s.heap.size := (Array.getElem?_eq_some_iff.mp hcb).1
    have hX : va_X b xs.length (fun j => xs.getD j 0) s s.heap := ⟨scr, hcb, hof, hkn, hsz, hval⟩
    have K : W p l e room_1 s m #[Value.ref b] below meth c s₁.heap [] 0 0 (lw_Z below #[Value.ref b] s) (entryFrame m ([Value.ref b] : List Value).toArray 9) := by
      rw [hh0]
      exact whole_start l hflags hbd ⟨B.exec, B.bytes, B.returns, hml, hown, hts, hX, hbl, B.notSynchronized, hgv⟩
    obtain ⟨t, a1, o, b1, b2, b3⟩ := K s₁ rfl X₀
    exact ⟨t, o, a1, b1, b2, b3⟩
theorem lw_pre_spec {args : Array Value} {s : State} (h : (Jvm.Cond.and given_1 narrow_1).before args s = true) (hr : rest_1_c.before args s = true) : ∃ (b : Addr) (xs : List Int32), lw_P b xs args s := by
  have hs := flat_of_before _ h
  have hq := flat_of_before _ hr
  have hc : (Cond.count 1).before args s = true := hs _ (by decide +kernel)
  have harr : (Cond.arrayOf (.arg 0) .int).before args s = true := hs _ (by decide +kernel)
  have hle : (Cond.le (.length (.arg 0)) (.int 260)).before args s = true := hs _ (by decide +kernel)
  have hlen : (Cond.isInt (.length (.arg 0))).before args s = true := hq _ (by decide +kernel)
  have hall : (Cond.all (.arg 0) (.isInt (.elem (.arg 0) (.index 0)))).before args s = true := hq _ (by decide +kernel)
  obtain ⟨b, xs, hb, hx⟩ := State.ints_of_pre rfl harr hlen hall
  have hsm : xs.length < 2 ^ 31 := hx.choose_spec.2.2.2
  have hev : (Term.length (.arg 0)).eval args s none [] s = some (.int xs.length.toInt32) := hx.length_eval hb
  have hv := Cond.le_ints hev (show (Term.int 260).eval args s none [] s = some (.int 260) from rfl)
  have hd : xs.length.toInt32 ≤ 260 := by
    simpa [Cond.before, Cond.holds, hv] using hle
  have hN : xs.length ≤ 260 := (Int32.ofNat_le_ofNat hsm (by decide)).mp (show Int32.ofNat xs.length ≤ Int32.ofNat 260 from hd)
  exact ⟨b, xs, Cond.one_arg hc (show args[0]? = some (.ref b) from hb), hx, hN, h⟩
theorem lw_comes (l : Launch) (hflags : l.flags = flags0) : Comes l x (Jvm.Cond.code x code maxLocals ret :: tables_1) room_1 (fun tb e args s => Calls_1 tb e args s ∧ rest_1 tb e args s ∧ Pre_1 tb e args s)
    (fun _ _ args s o t => lw_Q args s o t) := by
  intro p e ha hc hk s m args below hf hfit hheap happ hpre
  obtain ⟨b, xs, hP⟩ := lw_pre_spec hpre.2.2 hpre.2.1
  obtain ⟨k, o, h1, h2, h3, hQ⟩ := lw_walk l hflags b xs p e ha hc hk s m args below hf ((Spec.applies_iff_loose hf).mp happ).1 hP trivial
  exact ⟨k, o, h1, h2, h3, hQ⟩
theorem lw_frame {s t : State} {o : Outcome} {args : Array Value} (h : State.butDraws s t lw_cs (fun t1 => Framed s o t1 [] 600130 7301080)) :
    State.butDraws s t [Jvm.Choice.named "NaN.bits"] (fun t1 => Framed s o t1 (fieldLocs frame_1_writes args s ++ arrayLocs frame_1_arrays args s ++ staticLocs frame_1_statics s) 600130 7301080) := h
theorem lw_limb (L : Cond) (hL : ∀ (args : Array Value) (s t : State), L.after args s (.returned (some (.int 1))) t = true) :
    ArmFor flags0 classFile x code maxLocals ret World_1 tables_1 room_1 Calls_1 rest_1 Pre_1
      (fun tb e a s o t => postC L tb e a s o t ∧ State.butDraws s t [Jvm.Choice.named "NaN.bits"] (fun t1 => Framed s o t1 (fieldLocs frame_1_writes a s ++ arrayLocs frame_1_arrays a s ++ staticLocs frame_1_statics s) 600130 7301080)) := by
  intro l hflags _ _ p e ha hc hk s m args below hf hfit hheap happ hpre
  obtain ⟨k, o, h1, h2, h3, rfl, hF⟩ := lw_comes l hflags p e ha hc hk s m args below hf hfit hheap happ hpre
  exact ⟨k, _, h1, h2, h3, hL args s _, lw_frame hF⟩
theorem i_vc : Claimed_1_1 ∧ Claimed_1_2 := ⟨lw_limb limb_1_1 (fun args s t => by simp [limb_1_1, Cond.after, Cond.holds, Cond.value]), lw_limb limb_1_2 (fun args s t => Cond.after_iff.mpr (by
  first | (rw [show limb_1_2 = Cond.eq .result (.int 1) from rfl, Cond.eq_ints (x := 1) (y := 1) rfl rfl]; simp; done) | (simp [limb_1_2, Cond.value, Term.eval]; done)))⟩

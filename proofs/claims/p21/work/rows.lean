section
-- ===== PART A: goes FIRST, ahead of the names: the tables' words, and 'selects' of the private methods out of them =====
/-- a private method of a class that the tables say can be made, by its rows of tables_1 -/
def lw_okq (q : MethodName × Nat) : Prop := (q.1.cls ≠ "java/lang/invoke/MethodHandle" ∧ q.1.cls ≠ "java/lang/invoke/VarHandle") ∧ Cond.instantiable q.1.cls q.2 ∈ tables_1 ∧ Cond.privateMethod q.1 ∈ tables_1 ∧ Cond.instanceMethod q.1 ∈ tables_1
theorem lw_p0 : lw_okq (⟨"RoyalUrTable", "setUp", "(I)V"⟩, 9) := ⟨⟨by decide +kernel, by decide +kernel⟩, List.mem_of_getElem? (i := 14) (by decide +kernel), List.mem_of_getElem? (i := 49) (by decide +kernel), List.mem_of_getElem? (i := 50) (by decide +kernel)⟩
theorem lw_p1 : lw_okq (⟨"java/lang/Throwable", "fillInStackTrace", "(I)Ljava/lang/Throwable;"⟩, 6) := ⟨⟨by decide +kernel, by decide +kernel⟩, List.mem_of_getElem? (i := 128) (by decide +kernel), List.mem_of_getElem? (i := 126) (by decide +kernel), List.mem_of_getElem? (i := 127) (by decide +kernel)⟩
theorem lw_p2 : lw_okq (⟨"RoyalUrTable$Endings", "fillRow", "(I)V"⟩, 2) := ⟨⟨by decide +kernel, by decide +kernel⟩, List.mem_of_getElem? (i := 35) (by decide +kernel), List.mem_of_getElem? (i := 186) (by decide +kernel), List.mem_of_getElem? (i := 187) (by decide +kernel)⟩
theorem lw_p3 : lw_okq (⟨"RoyalUrTable$Endings", "worthToThrow", "(IIII)I"⟩, 2) := ⟨⟨by decide +kernel, by decide +kernel⟩, List.mem_of_getElem? (i := 35) (by decide +kernel), List.mem_of_getElem? (i := 190) (by decide +kernel), List.mem_of_getElem? (i := 191) (by decide +kernel)⟩
theorem lw_p4 : lw_okq (⟨"RoyalUrTable$Endings", "worthBehindThrow", "(IIIII)I"⟩, 2) := ⟨⟨by decide +kernel, by decide +kernel⟩, List.mem_of_getElem? (i := 35) (by decide +kernel), List.mem_of_getElem? (i := 204) (by decide +kernel), List.mem_of_getElem? (i := 205) (by decide +kernel)⟩
theorem lw_p5 : lw_okq (⟨"RoyalUrTable", "worthForTurn", "(I)I"⟩, 9) := ⟨⟨by decide +kernel, by decide +kernel⟩, List.mem_of_getElem? (i := 14) (by decide +kernel), List.mem_of_getElem? (i := 249) (by decide +kernel), List.mem_of_getElem? (i := 250) (by decide +kernel)⟩
theorem lw_p6 : lw_okq (⟨"RoyalUrTable", "sideOf", "(I)LRoyalUrTable$Side;"⟩, 9) := ⟨⟨by decide +kernel, by decide +kernel⟩, List.mem_of_getElem? (i := 14) (by decide +kernel), List.mem_of_getElem? (i := 254) (by decide +kernel), List.mem_of_getElem? (i := 255) (by decide +kernel)⟩
theorem lw_p7 : lw_okq (⟨"RoyalUrTable", "leadOfTurn", "()I"⟩, 9) := ⟨⟨by decide +kernel, by decide +kernel⟩, List.mem_of_getElem? (i := 14) (by decide +kernel), List.mem_of_getElem? (i := 258) (by decide +kernel), List.mem_of_getElem? (i := 259) (by decide +kernel)⟩
theorem lw_p8 : lw_okq (⟨"RoyalUrTable", "worthToThrow", "(JJII)I"⟩, 9) := ⟨⟨by decide +kernel, by decide +kernel⟩, List.mem_of_getElem? (i := 14) (by decide +kernel), List.mem_of_getElem? (i := 268) (by decide +kernel), List.mem_of_getElem? (i := 269) (by decide +kernel)⟩
theorem lw_p9 : lw_okq (⟨"RoyalUrTable", "worthAtOnce", "(JJI)I"⟩, 9) := ⟨⟨by decide +kernel, by decide +kernel⟩, List.mem_of_getElem? (i := 14) (by decide +kernel), List.mem_of_getElem? (i := 272) (by decide +kernel), List.mem_of_getElem? (i := 273) (by decide +kernel)⟩
theorem lw_p10 : lw_okq (⟨"RoyalUrTable", "worthBehindThrow", "(JJIII)I"⟩, 9) := ⟨⟨by decide +kernel, by decide +kernel⟩, List.mem_of_getElem? (i := 14) (by decide +kernel), List.mem_of_getElem? (i := 288) (by decide +kernel), List.mem_of_getElem? (i := 289) (by decide +kernel)⟩
theorem lw_p11 : lw_okq (⟨"RoyalUrTable", "worthBehindMove", "(JJIIII)I"⟩, 9) := ⟨⟨by decide +kernel, by decide +kernel⟩, List.mem_of_getElem? (i := 14) (by decide +kernel), List.mem_of_getElem? (i := 296) (by decide +kernel), List.mem_of_getElem? (i := 297) (by decide +kernel)⟩
theorem lw_p12 : lw_okq (⟨"RoyalUrTable", "countMoves", "(I)I"⟩, 9) := ⟨⟨by decide +kernel, by decide +kernel⟩, List.mem_of_getElem? (i := 14) (by decide +kernel), List.mem_of_getElem? (i := 323) (by decide +kernel), List.mem_of_getElem? (i := 324) (by decide +kernel)⟩
theorem lw_p13 : lw_okq (⟨"RoyalUrTable", "noteWorthsBehind", "(I)V"⟩, 9) := ⟨⟨by decide +kernel, by decide +kernel⟩, List.mem_of_getElem? (i := 14) (by decide +kernel), List.mem_of_getElem? (i := 327) (by decide +kernel), List.mem_of_getElem? (i := 328) (by decide +kernel)⟩
theorem lw_p14 : lw_okq (⟨"RoyalUrTable", "countBetter", "(II)I"⟩, 9) := ⟨⟨by decide +kernel, by decide +kernel⟩, List.mem_of_getElem? (i := 14) (by decide +kernel), List.mem_of_getElem? (i := 331) (by decide +kernel), List.mem_of_getElem? (i := 332) (by decide +kernel)⟩
theorem lw_p15 : lw_okq (⟨"RoyalUrTable", "canMoveFrom", "(I)Z"⟩, 9) := ⟨⟨by decide +kernel, by decide +kernel⟩, List.mem_of_getElem? (i := 14) (by decide +kernel), List.mem_of_getElem? (i := 362) (by decide +kernel), List.mem_of_getElem? (i := 363) (by decide +kernel)⟩
def lw_privs_1 : List (MethodName × Nat) := [(⟨"RoyalUrTable", "setUp", "(I)V"⟩, 9), (⟨"java/lang/Throwable", "fillInStackTrace", "(I)Ljava/lang/Throwable;"⟩, 6), (⟨"RoyalUrTable$Endings", "fillRow", "(I)V"⟩, 2), (⟨"RoyalUrTable$Endings", "worthToThrow", "(IIII)I"⟩, 2), (⟨"RoyalUrTable$Endings", "worthBehindThrow", "(IIIII)I"⟩, 2), (⟨"RoyalUrTable", "worthForTurn", "(I)I"⟩, 9), (⟨"RoyalUrTable", "sideOf", "(I)LRoyalUrTable$Side;"⟩, 9), (⟨"RoyalUrTable", "leadOfTurn", "()I"⟩, 9), (⟨"RoyalUrTable", "worthToThrow", "(JJII)I"⟩, 9), (⟨"RoyalUrTable", "worthAtOnce", "(JJI)I"⟩, 9), (⟨"RoyalUrTable", "worthBehindThrow", "(JJIII)I"⟩, 9), (⟨"RoyalUrTable", "worthBehindMove", "(JJIIII)I"⟩, 9), (⟨"RoyalUrTable", "countMoves", "(I)I"⟩, 9), (⟨"RoyalUrTable", "noteWorthsBehind", "(I)V"⟩, 9), (⟨"RoyalUrTable", "countBetter", "(II)I"⟩, 9), (⟨"RoyalUrTable", "canMoveFrom", "(I)Z"⟩, 9)]
theorem lw_r1 : ∀ q ∈ lw_privs_1, lw_okq q := List.forall_mem_cons.mpr ⟨lw_p0, List.forall_mem_cons.mpr ⟨lw_p1, List.forall_mem_cons.mpr ⟨lw_p2, List.forall_mem_cons.mpr ⟨lw_p3, List.forall_mem_cons.mpr ⟨lw_p4, List.forall_mem_cons.mpr ⟨lw_p5, List.forall_mem_cons.mpr ⟨lw_p6, List.forall_mem_cons.mpr ⟨lw_p7, List.forall_mem_cons.mpr ⟨lw_p8, List.forall_mem_cons.mpr ⟨lw_p9, List.forall_mem_cons.mpr ⟨lw_p10, List.forall_mem_cons.mpr ⟨lw_p11, List.forall_mem_cons.mpr ⟨lw_p12, List.forall_mem_cons.mpr ⟨lw_p13, List.forall_mem_cons.mpr ⟨lw_p14, List.forall_mem_cons.mpr ⟨lw_p15, fun _ h => absurd h List.not_mem_nil⟩⟩⟩⟩⟩⟩⟩⟩⟩⟩⟩⟩⟩⟩⟩⟩
def lw_privs : List (MethodName × Nat) := lw_privs_1
def lw_tbl : List Cond := k2_sels lw_privs ++ tables_1
theorem lw_privs_ok : ∀ q ∈ lw_privs, lw_okq q := lw_r1
/-- the streams that the claim lets the run draw from -/
abbrev lw_cs : List Choice := [Jvm.Choice.named "NaN.bits"]
theorem lw_bits : nanBits ∈ lw_cs := by first | decide | exact List.mem_cons_self | simp [lw_cs, nanBits]
end
section
/-! ===== BEGIN words of one list among another's, by their places ===== -/
theorem goodIn_r {big : List Cond} (ws : List Cond) (ps : List Nat) (hp : ws = ps.filterMap (fun i => big[i]?)) (h : ws.all goodWord = true) : GoodIn big ws := by
  intro w hw
  have h1 := List.all_eq_true.mp h w hw
  rw [hp] at hw
  obtain ⟨i, -, hi⟩ := List.mem_filterMap.mp hw
  have hm : w ∈ big := by first | exact List.mem_of_getElem? hi | exact List.getElem?_mem hi
  exact ⟨hm, good_of_word h1⟩
theorem goodIn_app {big a b : List Cond} (ha : GoodIn big a) (hb : GoodIn big b) : GoodIn big (a ++ b) := fun w h => (List.mem_append.mp h).elim (ha w) (hb w)
theorem goodIn_ca {big a b : List Cond} {c : Cond} (ha : GoodIn big (c :: a)) (hb : GoodIn big b) : GoodIn big (c :: (a ++ b)) := fun w h => (List.mem_cons.mp h).elim (fun e => ha w (List.mem_cons.mpr (Or.inl e))) (fun h => (List.mem_append.mp h).elim (fun h => ha w (List.mem_cons.mpr (Or.inr h))) (hb w))
theorem goodIn_sub {big ws : List Cond} (hm : ∀ w ∈ ws, w ∈ big) (h : ws.all goodWord = true) : GoodIn big ws := fun w hw => ⟨hm w hw, good_of_word (List.all_eq_true.mp h w hw)⟩
/-! ===== END ===== -/

/-! ===== BEGIN exceptions that leave a method, and their catching by the caller (launches without stack traces) ===== -/
section VXA
/-! The laws vx_back, vx_callV, vx_callS, vx_callSW, vx_throw0, vx_throwS follow proofs of the library, with one case more: JvmDerived/Free/Laws.lean (Back.of_free), Shelf42/LK1.lean (callV, callS), Shelf/KitTraced.lean (throwNew0V, throwNewS). -/
/-- where a method has thrown q: the class by its name, the cell, what was written, the world -/
def vx_T (XC : String → State → State → Prop) (st : State) (q : Addr) (t : State) (mc ms : Nat) (free : Addr → Prop) : Prop :=
  ∃ (E : String) (ce : Cell) (L : List Loc), XC E st t ∧ t.heap[q]? = some ce ∧ ce.vm = .none ∧ st.vm.findClass E = some ce.cls ∧ st.WarmedH t.vm ∧ st.sameButNew ({ t with vm := st.vm } : State) L mc ms ∧ ∀ z ∈ L, free z.base
def vx_Q (Qc : Array Value → State → Outcome → State → Prop) (XC : String → State → State → Prop) (mc ms : Nat) (free : Addr → Prop) : Array Value → State → Outcome → State → Prop := fun a st o t =>
  (Qc a st o t ∧ ∃ L, FrameEnd st o t L mc ms ∧ ∀ q ∈ L, free q.base) ∨ ∃ q, o = .threw q ∧ vx_T XC st q t mc ms free
/-- a callee that returns or throws -/
def vx_Met (l : Launch) (y : MethodName) (ws : List Cond) (rm : Room) (Pc : Array Value → State → Prop) (Qc : Array Value → State → Outcome → State → Prop) (XC : String → State → State → Prop) (mc ms : Nat) (free : Addr → Prop) : Prop :=
  MetFree l y (headSpec ws rm) Pc (fun _ _ _ _ _ => True) (vx_Q Qc XC mc ms free)
def vx_Post (XC : String → State → State → Prop) (mc ms : Nat) (free : Addr → Prop) : Pt → Array Value → Addr → Pt → Prop := fun A a q B =>
  ∃ (g : JFrame) (mk : MethodId) (t : State) (L : List Loc) (E : String) (ce : Cell), B.U.heap = t.heap ∧ B.U.vm = t.vm ∧ XC E (A.U.calling g mk a) t ∧ t.heap[q]? = some ce ∧ ce.vm = .none ∧ A.U.vm.findClass E = some ce.cls ∧ B.locs = A.locs ++ L ∧ (∀ z ∈ L, free z.base) ∧ B.cells = A.cells + mc ∧ B.slots = A.slots + ms
def vx_Back (l : Launch) (R : Room) (p : Program) (e : Env) (below : List Frame) (s : State) (sargs : Array Value) (y : MethodName) (len W9 : Nat)
    (Pre : Pt → Array Value → Prop) (Post : Pt → Array Value → Option Value → Pt → Prop) (PostX : Pt → Array Value → Addr → Pt → Prop) : Prop :=
  ∀ (m : MethodId) (meth : Method) (c : Code) (A : Pt) (g : JFrame) (ig : Instr) (mk : MethodId) (a : Array Value),
    Stand p l e R s m sargs below meth c A.U A.locs A.cells A.slots → g.method = m → g.locals.size = c.maxLocals → decode c.code g.pc = .ok (ig, len) →
    2 * g.monitorRoom + (g.stack.map fun v => v.category).sum ≤ W9 → A.U.methodNamed? y = some mk → Pre A a →
    (∃ (v : Option Value) (B : Pt), Stand p l e R s m sargs below meth c B.U B.locs B.cells B.slots ∧ Post A a v B ∧
      Steps p.tables e below (doInvoke e (A.U.setTop g) [] mk a).1 (B.U.setTop { g with pc := g.pc + len, stack := v.toList ++ g.stack })) ∨
    (∃ (q : Addr) (B : Pt), Stand p l e R s m sargs below meth c B.U B.locs B.cells B.slots ∧ PostX A a q B ∧
      Steps p.tables e below (doInvoke e (A.U.setTop g) [] mk a).1 ((B.U.setTop g).pushFrame (.throwing q)))
section Payer
variable {l : Launch} {R : Room} {p : Program} {e : Env} {below : List Frame} {s : State} {sargs : Array Value} {y : MethodName} {len W9 : Nat}
theorem vx_back {ws : List Cond} {rm : Room} {Pc : Array Value → State → Prop} {Qc : Array Value → State → Outcome → State → Prop} {XC : String → State → State → Prop} {mc ms : Nat} {free : Addr → Prop} {bytes : ByteArray} {maxL : Nat} {ret : Option FieldType}
    (hM : vx_Met l y ws rm Pc Qc XC mc ms free) (hblind : FrameBlind Pc) (hrc : rm.cells = mc) (hrs : rm.slots = ms)
    (hframes : rm.frames + 1 ≤ R.frames) (hlocals : W9 + (maxL + 11) + rm.locals ≤ R.locals)
    (hws : ∀ w ∈ ws, ∀ a' U, s.WarmedH U.vm → w.before a' U = true) (hcode : Cond.code y bytes maxL ret ∈ ws) (hinit : ∀ a' U, s.WarmedH U.vm → (Cond.initialized y.cls).before a' U = true) :
    vx_Back l R p e below s sargs y len W9 (PreOf R mc ms Pc) (PostOf Qc mc ms free) (vx_Post XC mc ms free) := by
  intro m meth c A g ig mk a X hg hsize hdg hW hn hp
  have h1 : (headSpec ws rm).pre.before a A.U = true := atoms_intro fun w hw => hws w hw _ _ X.warmed
  have h2 : (Cond.code y bytes maxL ret).before a A.U = true := hws _ hcode _ _ X.warmed
  have h3 : (Cond.initialized y.cls).before a A.U = true := hinit _ _ X.warmed
  have h4 : A.cells + (headSpec ws rm).room.cells ≤ R.cells := by rw [show (headSpec ws rm).room.cells = mc from hrc]; exact hp.1
  have h5 : A.slots + (headSpec ws rm).room.slots ≤ R.slots := by rw [show (headSpec ws rm).room.slots = ms from hrs]; exact hp.2.1
  have hPc : Pc a (A.U.calling g mk a) := hblind _ _ _ _ hp.2.2
  obtain ⟨U, Ls, c0, s0⟩ := A
  dsimp only [Pt.U, Pt.locs, Pt.cells, Pt.slots] at h1 h2 h3 h4 h5 X hn hPc ⊢
  obtain ⟨methY, cY, hmY, hcY, -, hlY, -, -, -, -⟩ := Cond.code_spec hn h2
  obtain ⟨kY, hkY, -⟩ := className_of_methodNamed hn
  have hinitY : kY.init = .initialized := Cond.initialized_spec (findClass_of_methodNamed hn) hkY h3
  have h : At U g.method c below := by rw [hg]; exact X.here
  have hlocals9 : W9 + (maxL + 11) + (headSpec ws rm).room.locals ≤ R.locals := hlocals
  have happ : (headSpec ws rm).appliesLoose y e.platform (U.calling g mk a) = true :=
    Spec.appliesLoose_calling (g := g) h hdg hn hkY hinitY
      (X.room_calling (g := g) (R' := (headSpec ws rm).room) hsize hmY hcY hframes (by rw [hlY]; omega) h4 h5) h1
  obtain ⟨mid, hmid⟩ := h.above
  have hfr : (U.setTop g).frames = (.java g :: mid) ++ below := by rw [State.frames_setTop' g h.top, hmid]; rfl
  obtain ⟨o, s₂, hsteps, -, hend, hq⟩ := Steps.callFree hM p X.admits X.cas X.clock (acts := []) hfr happ hPc trivial
  have hq' : vx_Q Qc XC mc ms free a (U.calling g mk a) o s₂ := hq
  rw [State.frames_setTop' g h.top] at hend
  obtain ⟨g₀, hg0⟩ := Option.isSome_iff_exists.mp h.top
  obtain ⟨r, hr⟩ := State.topJava?_eq_some.mp hg0
  have hr' : (({ U with heap := s₂.heap, slotsUsed := s₂.slotsUsed } : State).setVm s₂.vm).frames = .java g₀ :: r := hr
  rcases hq' with ⟨hqc, L, hfe, hL⟩ | ⟨q, rfl, E, ce, L, hx, hce, hcv, hcl, hW₂, hsm, hL⟩
  · obtain ⟨⟨v, rfl⟩, hW₂, e2, q2, q3, q4, q5, q6⟩ := id hfe
    have e3 : s₂ = ({ (U.calling g mk a).setFrames s₂.frames with heap := s₂.heap, slotsUsed := s₂.slotsUsed } : State).setVm s₂.vm := by
      have : s₂ = ({ s₂ with vm := (U.calling g mk a).vm } : State).setVm s₂.vm := rfl
      rw [e2] at this
      exact this
    obtain ⟨c₂, i₂, len₂, hc₂, hd₂, hf₂⟩ := hend
    have hW' : U.WarmedH s₂.vm := hW₂
    have hcc : c₂ = c := by
      have h1 : s₂.code? g.method = U.code? g.method := by
        rw [State.code?_eq, State.code?_eq, hW'.alike.method?]
      exact Option.some.inj (hc₂.symm.trans (h1.trans h.code))
    subst hcc
    have hlen : len₂ = len := by rw [hdg] at hd₂; cases hd₂; rfl
    subst hlen
    have hs₂ : s₂ = (({ U with heap := s₂.heap, slotsUsed := s₂.slotsUsed } : State).setVm s₂.vm).setTop { g with pc := g.pc + len₂, stack := v.toList ++ g.stack } := by
      refine e3.trans ?_
      rw [hf₂, State.calling_eq h.top, State.setFrames_setFrames, State.setTop_of_frames _ hr', hr]
      rfl
    have hsame : U.sameButNew ({ U with heap := s₂.heap, slotsUsed := s₂.slotsUsed } : State) L mc ms := by
      refine ⟨?_, q2, q3, q4, q5, q6⟩
      obtain ⟨t, ht, -⟩ := State.frames_cons hr
      show ({ U with heap := s₂.heap, slotsUsed := s₂.slotsUsed } : State) = { U.setFrames U.frames with heap := s₂.heap, slotsUsed := s₂.slotsUsed }
      rw [State.setFrames_self ht]
    subst hg
    refine Or.inl ⟨v, ⟨(({ U with heap := s₂.heap, slotsUsed := s₂.slotsUsed } : State).setVm s₂.vm), Ls ++ L, c0 + mc, s0 + ms⟩,
      ⟨X.admits, X.cas, X.clock, X.frames, X.room, X.hears, X.method, X.code, (X.here.setHeapUsed s₂.heap s₂.slotsUsed).setVm hW'.alike, X.tail, State.WarmedH.trans X.warmed hW', X.limits, X.bytes, X.same.trans (hsame.setVm s.vm)⟩,
      ⟨g, mk, s₂, L, rfl, rfl, hqc, rfl, hL, rfl, rfl⟩, ?_⟩
    show Steps p.tables e below _ ((({ U with heap := s₂.heap, slotsUsed := s₂.slotsUsed } : State).setVm s₂.vm).setTop { g with pc := g.pc + len₂, stack := v.toList ++ g.stack })
    rw [← hs₂]
    exact hsteps
  · obtain ⟨e2, q2, q3, q4, q5, q6⟩ := id hsm
    have e3 : s₂ = ({ (U.calling g mk a).setFrames s₂.frames with heap := s₂.heap, slotsUsed := s₂.slotsUsed } : State).setVm s₂.vm := by
      have : s₂ = ({ s₂ with vm := (U.calling g mk a).vm } : State).setVm s₂.vm := rfl
      rw [e2] at this
      exact this
    have hf₂ : s₂.frames = .throwing q :: .java g :: U.frames.tail := hend
    have hW' : U.WarmedH s₂.vm := hW₂
    have hs₂ : s₂ = ((({ U with heap := s₂.heap, slotsUsed := s₂.slotsUsed } : State).setVm s₂.vm).setTop g).pushFrame (.throwing q) := by
      refine e3.trans ?_
      rw [hf₂, State.calling_eq h.top, State.setFrames_setFrames, State.pushFrame, State.frames_setTop _ hr', State.setTop_of_frames _ hr', State.setFrames_setFrames, hr]
      rfl
    have hsame : U.sameButNew ({ U with heap := s₂.heap, slotsUsed := s₂.slotsUsed } : State) L mc ms := by
      refine ⟨?_, q2, q3, q4, q5, q6⟩
      obtain ⟨t, ht, -⟩ := State.frames_cons hr
      show ({ U with heap := s₂.heap, slotsUsed := s₂.slotsUsed } : State) = { U.setFrames U.frames with heap := s₂.heap, slotsUsed := s₂.slotsUsed }
      rw [State.setFrames_self ht]
    subst hg
    refine Or.inr ⟨q, ⟨(({ U with heap := s₂.heap, slotsUsed := s₂.slotsUsed } : State).setVm s₂.vm), Ls ++ L, c0 + mc, s0 + ms⟩,
      ⟨X.admits, X.cas, X.clock, X.frames, X.room, X.hears, X.method, X.code, (X.here.setHeapUsed s₂.heap s₂.slotsUsed).setVm hW'.alike, X.tail, State.WarmedH.trans X.warmed hW', X.limits, X.bytes, X.same.trans (hsame.setVm s.vm)⟩,
      ⟨g, mk, s₂, L, E, ce, rfl, rfl, hx, hce, hcv, hcl, rfl, hL, rfl, rfl⟩, ?_⟩
    show Steps p.tables e below _ (((({ U with heap := s₂.heap, slotsUsed := s₂.slotsUsed } : State).setVm s₂.vm).setTop g).pushFrame (.throwing q))
    rw [← hs₂]
    exact hsteps
end Payer
section Calls
variable {p : Program} {l : Launch} {e : Env} {R : Room} {s : State} {m : MethodId} {args : Array Value} {below : List Frame} {meth : Method} {c : Code} {T : State} {locs : List Loc} {cells slots : Nat}
theorem vx_callV (X : Stand p l e R s m args below meth c T locs cells slots) (hexec : p.tables.exec = Jvm.exec) {own C : String} {index : Nat} {y : MethodName} {bytes : ByteArray} {maxL : Nat} {ret : Option FieldType}
    (hown : s.vm.findClass own = some m.cls) (hlink : (Cond.methodLink own index y).before args s = true) (hinst : (Cond.instanceMethod y).before args s = true) (hsel : (Cond.selects C y y).before args s = true)
    (hcode : (Cond.code y bytes maxL ret).before args s = true) (hy : y.cls ≠ "java/lang/invoke/MethodHandle" ∧ y.cls ≠ "java/lang/invoke/VarHandle")
    {W9 : Nat} {Pre : Pt → Array Value → Prop} {Post : Pt → Array Value → Option Value → Pt → Prop} {PostX : Pt → Array Value → Addr → Pt → Prop} (hK : vx_Back l R p e below s args y 3 W9 Pre Post PostX)
    {b : Addr} {cellB : Cell} (hcell : T.heap[b]? = some cellB) (hobj : cellB.vm.isStatics = false) (hcls : s.vm.findClass C = some cellB.cls)
    {g : JFrame} (hg : g.method = m) (hsize : g.locals.size = c.maxLocals) {argsL rest : List Value} (hlen : ∀ sig, parseMethodDescriptor y.desc = some sig → argsL.length = sig.parameters.length)
    (hstack : g.stack = argsL.reverse ++ .ref b :: rest) (hW : 2 * g.monitorRoom + (rest.map fun v => v.category).sum ≤ W9) (hdg : decode c.code g.pc = .ok (.invokevirtual index, 3))
    (hpre : ∀ vm₁, s.WarmedH vm₁ → Pre ⟨T.setVm vm₁, locs, cells, slots⟩ (Value.ref b :: argsL).toArray) :
    (∃ (v : Option Value) (vm₁ : Vm) (B : Pt), s.WarmedH vm₁ ∧ Stand p l e R s m args below meth c B.U B.locs B.cells B.slots ∧ Post ⟨T.setVm vm₁, locs, cells, slots⟩ (Value.ref b :: argsL).toArray v B ∧
      ∀ target, Steps p.tables e below (B.U.setTop { g with pc := g.pc + 3, stack := v.toList ++ rest }) target → Steps p.tables e below (T.setTop g) target) ∨
    (∃ (q : Addr) (vm₁ : Vm) (B : Pt), s.WarmedH vm₁ ∧ Stand p l e R s m args below meth c B.U B.locs B.cells B.slots ∧ PostX ⟨T.setVm vm₁, locs, cells, slots⟩ (Value.ref b :: argsL).toArray q B ∧
      Steps p.tables e below (T.setTop g) ((B.U.setTop { g with stack := rest }).pushFrame (.throwing q))) := by
  obtain ⟨mk, methM, hnamed, hmethM, hstM, habM⟩ := Cond.instanceMethod_spec hinst
  obtain ⟨methM', cM, hmethM', -, -, -, -, -, -, hsigM⟩ := Cond.code_spec hnamed hcode
  cases hmethM.symm.trans hmethM'
  obtain ⟨c2, r2, m2, q1, q2, q3, q4, kP, hkP, hkPi⟩ := Cond.selects_spec hsel
  cases hcls.symm.trans q1
  cases (State.methodFound?_of_named hnamed hy).symm.trans q2
  cases hnamed.symm.trans q3
  have hselP : selectMethod e.platform s.vm cellB.cls mk = .method mk := by rw [Launch.admits_selectMethod X.admits]; exact q4
  obtain ⟨vm₁, X₁, hstep₁⟩ := X.invokevirtual hexec hown hlink hnamed hmethM hstM hkP hkPi hy (a := b) (cell := cellB) hcell
    (fun z h => by rw [h] at hobj; cases hobj) hselP hmethM habM hkP hkPi (g := g) hg (argsL := argsL) (rest := rest) (hlen _ hsigM) hstack hdg
  rcases hK m meth c ⟨T.setVm vm₁, locs, cells, slots⟩ { g with stack := rest } (.invokevirtual index) mk (Value.ref b :: argsL).toArray X₁ hg hsize hdg hW (X₁.named hnamed) (hpre vm₁ X₁.warmed) with ⟨v, B, X', hpost, hsteps⟩ | ⟨q, B, X', hpost, hsteps⟩
  · exact Or.inl ⟨v, vm₁, B, X₁.warmed, X', hpost, fun target h => hstep₁ _ fun acts => by rw [doInvoke_state]; exact hsteps.trans h⟩
  · exact Or.inr ⟨q, vm₁, B, X₁.warmed, X', hpost, hstep₁ _ fun acts => by rw [doInvoke_state]; exact hsteps⟩
theorem vx_callS (X : Stand p l e R s m args below meth c T locs cells slots) (hexec : p.tables.exec = Jvm.exec) {own : String} {index : Nat} {y : MethodName} {bytes : ByteArray} {maxL : Nat} {ret : Option FieldType}
    (hown : s.vm.findClass own = some m.cls) (hlink : (Cond.methodLink own index y).before args s = true) (hstat : (Cond.static y).before args s = true) (hinit : (Cond.initialized y.cls).before args s = true)
    (hcode : (Cond.code y bytes maxL ret).before args s = true) (hy : y.cls ≠ "java/lang/invoke/MethodHandle" ∧ y.cls ≠ "java/lang/invoke/VarHandle")
    {W9 : Nat} {Pre : Pt → Array Value → Prop} {Post : Pt → Array Value → Option Value → Pt → Prop} {PostX : Pt → Array Value → Addr → Pt → Prop} (hK : vx_Back l R p e below s args y 3 W9 Pre Post PostX)
    {g : JFrame} (hg : g.method = m) (hsize : g.locals.size = c.maxLocals) {argsL rest : List Value} (hlen : ∀ sig, parseMethodDescriptor y.desc = some sig → argsL.length = sig.parameters.length)
    (hstack : g.stack = argsL.reverse ++ rest) (hW : 2 * g.monitorRoom + (rest.map fun v => v.category).sum ≤ W9) (hdg : decode c.code g.pc = .ok (.invokestatic index, 3))
    (hpre : ∀ vm₁, s.WarmedH vm₁ → Pre ⟨T.setVm vm₁, locs, cells, slots⟩ argsL.toArray) :
    (∃ (v : Option Value) (vm₁ : Vm) (B : Pt), s.WarmedH vm₁ ∧ Stand p l e R s m args below meth c B.U B.locs B.cells B.slots ∧ Post ⟨T.setVm vm₁, locs, cells, slots⟩ argsL.toArray v B ∧
      ∀ target, Steps p.tables e below (B.U.setTop { g with pc := g.pc + 3, stack := v.toList ++ rest }) target → Steps p.tables e below (T.setTop g) target) ∨
    (∃ (q : Addr) (vm₁ : Vm) (B : Pt), s.WarmedH vm₁ ∧ Stand p l e R s m args below meth c B.U B.locs B.cells B.slots ∧ PostX ⟨T.setVm vm₁, locs, cells, slots⟩ argsL.toArray q B ∧
      Steps p.tables e below (T.setTop g) ((B.U.setTop { g with stack := rest }).pushFrame (.throwing q))) := by
  obtain ⟨mk, hnamed⟩ := Cond.code_named hcode
  obtain ⟨methM, cM, hmethM, -, -, -, -, -, -, hsigM⟩ := Cond.code_spec hnamed hcode
  have hstatic : methM.isStatic = true := Cond.static_spec hnamed hmethM hstat
  obtain ⟨kP, hkP, -⟩ := className_of_methodNamed hnamed
  have hinitP : kP.init = .initialized := Cond.initialized_spec (findClass_of_methodNamed hnamed) hkP hinit
  obtain ⟨vm₁, X₁, hstep₁⟩ := X.invokestatic hexec hown hlink hnamed hmethM hstatic hkP hinitP hy (g := g) hg (argsL := argsL) (rest := rest) (hlen _ hsigM) hstack hdg
  rcases hK m meth c ⟨T.setVm vm₁, locs, cells, slots⟩ { g with stack := rest } (.invokestatic index) mk argsL.toArray X₁ hg hsize hdg hW (X₁.named hnamed) (hpre vm₁ X₁.warmed) with ⟨v, B, X', hpost, hsteps⟩ | ⟨q, B, X', hpost, hsteps⟩
  · exact Or.inl ⟨v, vm₁, B, X₁.warmed, X', hpost, fun target h => hstep₁ _ fun acts => by rw [doInvoke_state]; exact hsteps.trans h⟩
  · exact Or.inr ⟨q, vm₁, B, X₁.warmed, X', hpost, hstep₁ _ fun acts => by rw [doInvoke_state]; exact hsteps⟩
end Calls
theorem vx_cls {s : State} {T : State} {vm₁ : Vm} {E : String} {k : ClassId} (hW : s.WarmedH vm₁) (h : (T.setVm vm₁).vm.findClass E = some k) : s.vm.findClass E = some k := by
  have h1 : vm₁.findClass E = some k := h
  rw [hW.alike.findClass] at h1
  exact h1
/-- the method's frame g, with q thrown over it -/
def vx_W (p : Program) (l : Launch) (e : Env) (R : Room) (s : State) (m : MethodId) (args : Array Value) (below : List Frame) (meth : Method) (c : Code) (H : Heap) (locs : List Loc) (cells slots : Nat) (Q : State → Prop) (g : JFrame) (q : Addr) : Prop :=
  ∀ T : State, T.heap = H → Stand p l e R s m args below meth c T locs cells slots → ∃ t, Steps p.tables e below ((T.setTop g).pushFrame (.throwing q)) t ∧ Q t
def vx_Run (p : Program) (l : Launch) (e : Env) (R : Room) (s : State) (m : MethodId) (args : Array Value) (below : List Frame) (meth : Method) (c : Code) (H : Heap) (locs : List Loc) (cells slots mc ms : Nat) (g : JFrame) (rest : List Value) (Qa : State → Outcome → State → Prop) (XC : String → State → State → Prop) (free : Addr → Prop) : Prop :=
  ∀ T : State, T.heap = H → Stand p l e R s m args below meth c T locs cells slots →
    (∃ (v : Option Value) (st₀ t T' : State) (L : List Loc), st₀.heap = H ∧ Stand p l e R s m args below meth c T' (locs ++ L) (cells + mc) (slots + ms) ∧ (∀ q ∈ L, free q.base) ∧ T'.heap = t.heap ∧ T'.vm = t.vm ∧ Qa st₀ (.returned v) t ∧
      Goes p e below T g T' { g with pc := g.pc + 3, stack := v.toList ++ rest }) ∨
    (∃ (q : Addr) (st₀ t T' : State) (L : List Loc) (E : String) (ce : Cell), st₀.heap = H ∧ Stand p l e R s m args below meth c T' (locs ++ L) (cells + mc) (slots + ms) ∧ (∀ z ∈ L, free z.base) ∧ T'.heap = t.heap ∧ T'.vm = t.vm ∧ XC E st₀ t ∧ t.heap[q]? = some ce ∧ ce.vm = .none ∧ s.vm.findClass E = some ce.cls ∧
      Steps p.tables e below (T.setTop g) ((T'.setTop { g with stack := rest }).pushFrame (.throwing q)))
def vx_X {S : Type} (px : S → Prop) (B : String → S → State → Prop) (A : Nat → Prop) : String → State → State → Prop := fun E st t => ∃ u : S, px u ∧ B E u t ∧ va_F A st t
section Runs
variable {p : Program} {l : Launch} {e : Env} {R : Room} {s : State} {m : MethodId} {args : Array Value} {below : List Frame} {meth : Method} {c : Code} {H : Heap} {locs : List Loc} {cells slots : Nat}
variable {y : MethodName} {bytes cc : ByteArray} {maxL nL mc ms n index : Nat} {ret : Option FieldType} {ws : List Cond} {rm : Room} {Pc : Array Value → State → Prop} {Qc : Array Value → State → Outcome → State → Prop} {XC : String → State → State → Prop} {free : Addr → Prop} {Ts : List Cond} {own C : String} {b : Addr} {As rest : List Value} {g : JFrame}
theorem vx_callBack (cb : CallB R s args own index y bytes maxL ret ws rm mc ms n) (hM : vx_Met l y ws rm Pc Qc XC mc ms free) (hbl : FrameBlind Pc) : vx_Back l R p e below s args y 3 8 (PreOf R mc ms Pc) (PostOf Qc mc ms free) (vx_Post XC mc ms free) := by
  obtain ⟨hrc, hrs, hfr, hlo, hws, hcw, -, hini, -⟩ := cb
  exact vx_back (bytes := bytes) (maxL := maxL) (ret := ret) hM hbl hrc hrs hfr hlo hws hcw (fun a' U hW => word_at hW (Or.inl (by first | rfl | simp [Cond.onTables, Cond.keeps, Cond.steady])) hini)
theorem vx_runV (S : CallFix p m c cc nL s args Ts own) (hM : vx_Met l y ws rm Pc Qc XC mc ms free) (cw : CallW R s args own C index y bytes maxL ret ws rm mc ms n) (hp : PreV s H C b Pc As)
    (hg : g.method = m) (hn : As.length = n) (hsize : g.locals.size = nL) (hstack : g.stack = As.reverse ++ .ref b :: rest) (hW : 2 * g.monitorRoom + (rest.map fun v => v.category).sum ≤ 8) (hdg : decode cc g.pc = .ok (.invokevirtual index, 3)) (hf : cells + mc ≤ R.cells ∧ slots + ms ≤ R.slots) :
    vx_Run p l e R s m args below meth c H locs cells slots mc ms g rest (Qc (Value.ref b :: As).toArray) XC free := by
  have hK : vx_Back l R p e below s args y 3 8 (PreOf R mc ms Pc) (PostOf Qc mc ms free) (vx_Post XC mc ms free) := vx_callBack cw.1 hM hp.1
  obtain ⟨⟨-, -, -, -, -, -, hcode, -, hy, hlen, hl⟩, hin, hse⟩ := cw
  obtain ⟨hx, hb, hml, ho, -⟩ := S
  obtain ⟨-, ⟨cellB, hcB, hoB, hclB⟩, hPc⟩ := hp
  intro T hT X
  rcases vx_callV X hx (C := C) (bytes := bytes) (maxL := maxL) (ret := ret) ho hl hin hse hcode hy hK (by rw [hT]; exact hcB) hoB hclB hg (hsize.trans hml.symm) (argsL := As) (rest := rest) (fun sig h => hn.trans (hlen sig h)) hstack hW (by rw [hb]; exact hdg)
    (fun vm₁ hW₁ => ⟨hf.1, hf.2, hPc (T.setVm vm₁) hT hW₁⟩) with ⟨v, vm₁, ⟨U', l2, c2, s2⟩, hW₁, X', ⟨g', mk, t, L, e1, e2, hq, h1, hL, h2, h3⟩, st⟩ | ⟨q, vm₁, ⟨U', l2, c2, s2⟩, hW₁, X', ⟨g', mk, t, L, E, ce, e1, e2, hq, hce, hcv, hcl, h1, hL, h2, h3⟩, st⟩
  · dsimp only [Pt.U, Pt.locs, Pt.cells, Pt.slots] at X' e1 e2 h1 h2 h3 st
    subst h1; subst h2; subst h3
    exact Or.inl ⟨v, (T.setVm vm₁).calling g' mk (Value.ref b :: As).toArray, t, U', L, hT, X', hL, e1, e2, hq, st⟩
  · dsimp only [Pt.U, Pt.locs, Pt.cells, Pt.slots] at X' e1 e2 h1 h2 h3 st hcl
    subst h1; subst h2; subst h3
    exact Or.inr ⟨q, (T.setVm vm₁).calling g' mk (Value.ref b :: As).toArray, t, U', L, E, ce, hT, X', hL, e1, e2, hq, hce, hcv, vx_cls hW₁ hcl, st⟩
theorem vx_runS (S : CallFix p m c cc nL s args Ts own) (hM : vx_Met l y ws rm Pc Qc XC mc ms free) (cw : CallB R s args own index y bytes maxL ret ws rm mc ms n ∧ (Cond.static y).before args s = true) (hp : PreS s H Pc As)
    (hg : g.method = m) (hn : As.length = n) (hsize : g.locals.size = nL) (hstack : g.stack = As.reverse ++ rest) (hW : 2 * g.monitorRoom + (rest.map fun v => v.category).sum ≤ 8) (hdg : decode cc g.pc = .ok (.invokestatic index, 3)) (hf : cells + mc ≤ R.cells ∧ slots + ms ≤ R.slots) :
    vx_Run p l e R s m args below meth c H locs cells slots mc ms g rest (Qc As.toArray) XC free := by
  have hK : vx_Back l R p e below s args y 3 8 (PreOf R mc ms Pc) (PostOf Qc mc ms free) (vx_Post XC mc ms free) := vx_callBack cw.1 hM hp.1
  obtain ⟨⟨-, -, -, -, -, -, hcode, hini, hy, hlen, hl⟩, hstt⟩ := cw
  obtain ⟨hx, hb, hml, ho, -⟩ := S
  intro T hT X
  rcases vx_callS X hx (bytes := bytes) (maxL := maxL) (ret := ret) ho hl hstt hini hcode hy hK hg (hsize.trans hml.symm) (argsL := As) (rest := rest) (fun sig h => hn.trans (hlen sig h)) hstack hW (by rw [hb]; exact hdg)
    (fun vm₁ hW₁ => ⟨hf.1, hf.2, hp.2 (T.setVm vm₁) hT hW₁⟩) with ⟨v, vm₁, ⟨U', l2, c2, s2⟩, hW₁, X', ⟨g', mk, t, L, e1, e2, hq, h1, hL, h2, h3⟩, st⟩ | ⟨q, vm₁, ⟨U', l2, c2, s2⟩, hW₁, X', ⟨g', mk, t, L, E, ce, e1, e2, hq, hce, hcv, hcl, h1, hL, h2, h3⟩, st⟩
  · dsimp only [Pt.U, Pt.locs, Pt.cells, Pt.slots] at X' e1 e2 h1 h2 h3 st
    subst h1; subst h2; subst h3
    exact Or.inl ⟨v, (T.setVm vm₁).calling g' mk As.toArray, t, U', L, hT, X', hL, e1, e2, hq, st⟩
  · dsimp only [Pt.U, Pt.locs, Pt.cells, Pt.slots] at X' e1 e2 h1 h2 h3 st hcl
    subst h1; subst h2; subst h3
    exact Or.inr ⟨q, (T.setVm vm₁).calling g' mk As.toArray, t, U', L, E, ce, hT, X', hL, e1, e2, hq, hce, hcv, vx_cls hW₁ hcl, st⟩
end Runs
section Rows
variable {p : Program} {l : Launch} {e : Env} {R : Room} {s : State} {m : MethodId} {args : Array Value} {below : List Frame} {meth : Method} {c : Code} {H : Heap} {locs : List Loc} {cells slots : Nat} {Q : State → Prop}
variable {mc ms : Nat} {free : Addr → Prop} {A0 A1 : Nat → Prop} {H0 : Heap} {a : Array Value} {pc : Nat} {ls : Array Slot} {st0 rest : List Value}
theorem vx_keep {st₀ t T' : State} {L : List Loc} (h0 : st₀.heap = H) (e1 : T'.heap = t.heap) (hS : va_S A0 H0 H locs) (hA : ∀ q, q < H.size → A1 q → A0 q) (hf : ∀ q, free q → A0 q) (hL : ∀ q ∈ L, free q.base) (hF : va_F A1 st₀ t) :
    H.size ≤ T'.heap.size ∧ (∀ q : Nat, q < H.size → ¬ A1 q → T'.heap[q]? = H[q]?) ∧ va_S A0 H0 T'.heap (locs ++ L) := by
  obtain ⟨hz, hk⟩ := hF
  rw [h0] at hz hk
  exact ⟨by rw [e1]; exact hz, fun q h1 h2 => by rw [e1]; exact hk q h1 h2,
    ⟨Nat.le_trans hS.1 (by rw [e1]; exact hz), fun q h1 h2 => by rw [e1, hk q (Nat.lt_of_lt_of_le h1 hS.1) (fun z => h2 (hA q (Nat.lt_of_lt_of_le h1 hS.1) z))]; exact hS.2.1 q h1 h2, fun q hq => by
      rcases List.mem_append.mp hq with h | h
      · exact hS.2.2 q h
      · exact hf _ (hL q h)⟩⟩
theorem vx_calli {S SX : Type} {post : Int32 → S → Prop} {px : SX → Prop} {B : S → State → Prop} {BX : String → SX → State → Prop} {AX : Nat → Prop} (hr : vx_Run p l e R s m args below meth c H locs cells slots mc ms (F0 m pc ls st0) rest (va_Qi post B A1 a) (vx_X px BX AX) free) (hS : va_S A0 H0 H locs) (hA : ∀ q, q < H.size → A1 q → A0 q) (hf : ∀ q, free q → A0 q) (hAX : ∀ q, q < H.size → AX q → A0 q)
    (kx : ∀ (E : String) (ce : Cell) (q9 : Addr) (u : SX) (t : State) (H1 : Heap) (locs1 : List Loc), t.heap = H1 → s.vm.Alike t.vm → px u → BX E u t → H.size ≤ H1.size → (∀ q : Nat, q < H.size → ¬ AX q → H1[q]? = H[q]?) → va_S A0 H0 H1 locs1 → H1[q9]? = some ce → ce.vm = .none → s.vm.findClass E = some ce.cls → vx_W p l e R s m args below meth c H1 locs1 (cells + mc) (slots + ms) Q (F0 m pc ls rest) q9)
    (kk : ∀ (r : Int32) (u : S) (t : State) (H1 : Heap) (locs1 : List Loc), t.heap = H1 → s.vm.Alike t.vm → post r u → B u t → H.size ≤ H1.size → (∀ q : Nat, q < H.size → ¬ A1 q → H1[q]? = H[q]?) → va_S A0 H0 H1 locs1 → W p l e R s m args below meth c H1 locs1 (cells + mc) (slots + ms) Q (F0 m (pc + 3) ls (.int r :: rest))) : W p l e R s m args below meth c H locs cells slots Q (F0 m pc ls st0) := by
  intro T hT X
  rcases hr T hT X with ⟨v, st₀, t, T', L, h0, X', hL, e1, e2, ⟨⟨r, u, hv, hp, hb⟩, hF⟩, st⟩ | ⟨q, st₀, t, T', L, E, ce, h0, X', hL, e1, e2, ⟨u, hp, hb, hF⟩, hce, hcv, hcl, st⟩
  · cases hv
    obtain ⟨k1, k2, k3⟩ := vx_keep h0 e1 hS hA hf hL hF
    obtain ⟨t2, a1, b1⟩ := kk r u t T'.heap (locs ++ L) e1.symm (by rw [← e2]; exact X'.warmed.alike) hp hb k1 k2 k3 T' rfl X'
    exact ⟨t2, st t2 a1, b1⟩
  · obtain ⟨k1, k2, k3⟩ := vx_keep h0 e1 hS hAX hf hL hF
    obtain ⟨t2, a1, b1⟩ := kx E ce q u t T'.heap (locs ++ L) e1.symm (by rw [← e2]; exact X'.warmed.alike) hp hb k1 k2 k3 (by rw [e1]; exact hce) hcv hcl T' rfl X'
    exact ⟨t2, st.trans a1, b1⟩
theorem vx_calll {S SX : Type} {post : Int64 → S → Prop} {px : SX → Prop} {B : S → State → Prop} {BX : String → SX → State → Prop} {AX : Nat → Prop} (hr : vx_Run p l e R s m args below meth c H locs cells slots mc ms (F0 m pc ls st0) rest (va_Ql post B A1 a) (vx_X px BX AX) free) (hS : va_S A0 H0 H locs) (hA : ∀ q, q < H.size → A1 q → A0 q) (hf : ∀ q, free q → A0 q) (hAX : ∀ q, q < H.size → AX q → A0 q)
    (kx : ∀ (E : String) (ce : Cell) (q9 : Addr) (u : SX) (t : State) (H1 : Heap) (locs1 : List Loc), t.heap = H1 → s.vm.Alike t.vm → px u → BX E u t → H.size ≤ H1.size → (∀ q : Nat, q < H.size → ¬ AX q → H1[q]? = H[q]?) → va_S A0 H0 H1 locs1 → H1[q9]? = some ce → ce.vm = .none → s.vm.findClass E = some ce.cls → vx_W p l e R s m args below meth c H1 locs1 (cells + mc) (slots + ms) Q (F0 m pc ls rest) q9)
    (kk : ∀ (r : Int64) (u : S) (t : State) (H1 : Heap) (locs1 : List Loc), t.heap = H1 → s.vm.Alike t.vm → post r u → B u t → H.size ≤ H1.size → (∀ q : Nat, q < H.size → ¬ A1 q → H1[q]? = H[q]?) → va_S A0 H0 H1 locs1 → W p l e R s m args below meth c H1 locs1 (cells + mc) (slots + ms) Q (F0 m (pc + 3) ls (.long r :: rest))) : W p l e R s m args below meth c H locs cells slots Q (F0 m pc ls st0) := by
  intro T hT X
  rcases hr T hT X with ⟨v, st₀, t, T', L, h0, X', hL, e1, e2, ⟨⟨r, u, hv, hp, hb⟩, hF⟩, st⟩ | ⟨q, st₀, t, T', L, E, ce, h0, X', hL, e1, e2, ⟨u, hp, hb, hF⟩, hce, hcv, hcl, st⟩
  · cases hv
    obtain ⟨k1, k2, k3⟩ := vx_keep h0 e1 hS hA hf hL hF
    obtain ⟨t2, a1, b1⟩ := kk r u t T'.heap (locs ++ L) e1.symm (by rw [← e2]; exact X'.warmed.alike) hp hb k1 k2 k3 T' rfl X'
    exact ⟨t2, st t2 a1, b1⟩
  · obtain ⟨k1, k2, k3⟩ := vx_keep h0 e1 hS hAX hf hL hF
    obtain ⟨t2, a1, b1⟩ := kx E ce q u t T'.heap (locs ++ L) e1.symm (by rw [← e2]; exact X'.warmed.alike) hp hb k1 k2 k3 (by rw [e1]; exact hce) hcv hcl T' rfl X'
    exact ⟨t2, st.trans a1, b1⟩
theorem vx_callf {S SX : Type} {post : UInt32 → S → Prop} {px : SX → Prop} {B : S → State → Prop} {BX : String → SX → State → Prop} {AX : Nat → Prop} (hr : vx_Run p l e R s m args below meth c H locs cells slots mc ms (F0 m pc ls st0) rest (va_Qf post B A1 a) (vx_X px BX AX) free) (hS : va_S A0 H0 H locs) (hA : ∀ q, q < H.size → A1 q → A0 q) (hf : ∀ q, free q → A0 q) (hAX : ∀ q, q < H.size → AX q → A0 q)
    (kx : ∀ (E : String) (ce : Cell) (q9 : Addr) (u : SX) (t : State) (H1 : Heap) (locs1 : List Loc), t.heap = H1 → s.vm.Alike t.vm → px u → BX E u t → H.size ≤ H1.size → (∀ q : Nat, q < H.size → ¬ AX q → H1[q]? = H[q]?) → va_S A0 H0 H1 locs1 → H1[q9]? = some ce → ce.vm = .none → s.vm.findClass E = some ce.cls → vx_W p l e R s m args below meth c H1 locs1 (cells + mc) (slots + ms) Q (F0 m pc ls rest) q9)
    (kk : ∀ (r : UInt32) (u : S) (t : State) (H1 : Heap) (locs1 : List Loc), t.heap = H1 → s.vm.Alike t.vm → post r u → B u t → H.size ≤ H1.size → (∀ q : Nat, q < H.size → ¬ A1 q → H1[q]? = H[q]?) → va_S A0 H0 H1 locs1 → W p l e R s m args below meth c H1 locs1 (cells + mc) (slots + ms) Q (F0 m (pc + 3) ls (.float r :: rest))) : W p l e R s m args below meth c H locs cells slots Q (F0 m pc ls st0) := by
  intro T hT X
  rcases hr T hT X with ⟨v, st₀, t, T', L, h0, X', hL, e1, e2, ⟨⟨r, u, hv, hp, hb⟩, hF⟩, st⟩ | ⟨q, st₀, t, T', L, E, ce, h0, X', hL, e1, e2, ⟨u, hp, hb, hF⟩, hce, hcv, hcl, st⟩
  · cases hv
    obtain ⟨k1, k2, k3⟩ := vx_keep h0 e1 hS hA hf hL hF
    obtain ⟨t2, a1, b1⟩ := kk r u t T'.heap (locs ++ L) e1.symm (by rw [← e2]; exact X'.warmed.alike) hp hb k1 k2 k3 T' rfl X'
    exact ⟨t2, st t2 a1, b1⟩
  · obtain ⟨k1, k2, k3⟩ := vx_keep h0 e1 hS hAX hf hL hF
    obtain ⟨t2, a1, b1⟩ := kx E ce q u t T'.heap (locs ++ L) e1.symm (by rw [← e2]; exact X'.warmed.alike) hp hb k1 k2 k3 (by rw [e1]; exact hce) hcv hcl T' rfl X'
    exact ⟨t2, st.trans a1, b1⟩
theorem vx_calld {S SX : Type} {post : UInt64 → S → Prop} {px : SX → Prop} {B : S → State → Prop} {BX : String → SX → State → Prop} {AX : Nat → Prop} (hr : vx_Run p l e R s m args below meth c H locs cells slots mc ms (F0 m pc ls st0) rest (va_Qd post B A1 a) (vx_X px BX AX) free) (hS : va_S A0 H0 H locs) (hA : ∀ q, q < H.size → A1 q → A0 q) (hf : ∀ q, free q → A0 q) (hAX : ∀ q, q < H.size → AX q → A0 q)
    (kx : ∀ (E : String) (ce : Cell) (q9 : Addr) (u : SX) (t : State) (H1 : Heap) (locs1 : List Loc), t.heap = H1 → s.vm.Alike t.vm → px u → BX E u t → H.size ≤ H1.size → (∀ q : Nat, q < H.size → ¬ AX q → H1[q]? = H[q]?) → va_S A0 H0 H1 locs1 → H1[q9]? = some ce → ce.vm = .none → s.vm.findClass E = some ce.cls → vx_W p l e R s m args below meth c H1 locs1 (cells + mc) (slots + ms) Q (F0 m pc ls rest) q9)
    (kk : ∀ (r : UInt64) (u : S) (t : State) (H1 : Heap) (locs1 : List Loc), t.heap = H1 → s.vm.Alike t.vm → post r u → B u t → H.size ≤ H1.size → (∀ q : Nat, q < H.size → ¬ A1 q → H1[q]? = H[q]?) → va_S A0 H0 H1 locs1 → W p l e R s m args below meth c H1 locs1 (cells + mc) (slots + ms) Q (F0 m (pc + 3) ls (.double r :: rest))) : W p l e R s m args below meth c H locs cells slots Q (F0 m pc ls st0) := by
  intro T hT X
  rcases hr T hT X with ⟨v, st₀, t, T', L, h0, X', hL, e1, e2, ⟨⟨r, u, hv, hp, hb⟩, hF⟩, st⟩ | ⟨q, st₀, t, T', L, E, ce, h0, X', hL, e1, e2, ⟨u, hp, hb, hF⟩, hce, hcv, hcl, st⟩
  · cases hv
    obtain ⟨k1, k2, k3⟩ := vx_keep h0 e1 hS hA hf hL hF
    obtain ⟨t2, a1, b1⟩ := kk r u t T'.heap (locs ++ L) e1.symm (by rw [← e2]; exact X'.warmed.alike) hp hb k1 k2 k3 T' rfl X'
    exact ⟨t2, st t2 a1, b1⟩
  · obtain ⟨k1, k2, k3⟩ := vx_keep h0 e1 hS hAX hf hL hF
    obtain ⟨t2, a1, b1⟩ := kx E ce q u t T'.heap (locs ++ L) e1.symm (by rw [← e2]; exact X'.warmed.alike) hp hb k1 k2 k3 (by rw [e1]; exact hce) hcv hcl T' rfl X'
    exact ⟨t2, st.trans a1, b1⟩
theorem vx_callv {S SX : Type} {post : S → Prop} {px : SX → Prop} {B : S → State → Prop} {BX : String → SX → State → Prop} {AX : Nat → Prop} (hr : vx_Run p l e R s m args below meth c H locs cells slots mc ms (F0 m pc ls st0) rest (va_Qv post B A1 a) (vx_X px BX AX) free) (hS : va_S A0 H0 H locs) (hA : ∀ q, q < H.size → A1 q → A0 q) (hf : ∀ q, free q → A0 q) (hAX : ∀ q, q < H.size → AX q → A0 q)
    (kx : ∀ (E : String) (ce : Cell) (q9 : Addr) (u : SX) (t : State) (H1 : Heap) (locs1 : List Loc), t.heap = H1 → s.vm.Alike t.vm → px u → BX E u t → H.size ≤ H1.size → (∀ q : Nat, q < H.size → ¬ AX q → H1[q]? = H[q]?) → va_S A0 H0 H1 locs1 → H1[q9]? = some ce → ce.vm = .none → s.vm.findClass E = some ce.cls → vx_W p l e R s m args below meth c H1 locs1 (cells + mc) (slots + ms) Q (F0 m pc ls rest) q9)
    (kk : ∀ (u : S) (t : State) (H1 : Heap) (locs1 : List Loc), t.heap = H1 → s.vm.Alike t.vm → post u → B u t → H.size ≤ H1.size → (∀ q : Nat, q < H.size → ¬ A1 q → H1[q]? = H[q]?) → va_S A0 H0 H1 locs1 → W p l e R s m args below meth c H1 locs1 (cells + mc) (slots + ms) Q (F0 m (pc + 3) ls (rest))) : W p l e R s m args below meth c H locs cells slots Q (F0 m pc ls st0) := by
  intro T hT X
  rcases hr T hT X with ⟨v, st₀, t, T', L, h0, X', hL, e1, e2, ⟨⟨u, hv, hp, hb⟩, hF⟩, st⟩ | ⟨q, st₀, t, T', L, E, ce, h0, X', hL, e1, e2, ⟨u, hp, hb, hF⟩, hce, hcv, hcl, st⟩
  · cases hv
    obtain ⟨k1, k2, k3⟩ := vx_keep h0 e1 hS hA hf hL hF
    obtain ⟨t2, a1, b1⟩ := kk u t T'.heap (locs ++ L) e1.symm (by rw [← e2]; exact X'.warmed.alike) hp hb k1 k2 k3 T' rfl X'
    exact ⟨t2, st t2 a1, b1⟩
  · obtain ⟨k1, k2, k3⟩ := vx_keep h0 e1 hS hAX hf hL hF
    obtain ⟨t2, a1, b1⟩ := kx E ce q u t T'.heap (locs ++ L) e1.symm (by rw [← e2]; exact X'.warmed.alike) hp hb k1 k2 k3 (by rw [e1]; exact hce) hcv hcl T' rfl X'
    exact ⟨t2, st.trans a1, b1⟩
/-- caught by the row x of this method's table; the rows ahead don't take it -/
theorem vx_catch {own name : String} {E : String} {ce : Cell} {q : Addr} (hown : s.vm.findClass own = some m.cls) (pre : List ExceptionTableEntry) (x : ExceptionTableEntry) (suf : List ExceptionTableEntry) (hsplit : c.exceptionTable.toList = pre ++ x :: suf)
    (hpass : ∀ z ∈ pre, covers z pc = false ∨ (z.catchType ≠ 0 ∧ ∃ nm : String, (Cond.classLink own z.catchType nm).before args s = true ∧ va_Nc E nm s)) (hx : covers x pc = true) (h0 : x.catchType ≠ 0)
    (hlink : (Cond.classLink own x.catchType name).before args s = true) (hcast : (Cond.castable E name).before args s = true) (hcell : H[q]? = some ce) (hv : ce.vm = .none) (hcl : s.vm.findClass E = some ce.cls)
    (kk : W p l e R s m args below meth c H locs cells slots Q (F0 m x.handlerPc ls [.ref q])) : vx_W p l e R s m args below meth c H locs cells slots Q (F0 m pc ls rest) q := by
  intro T hT X
  have hpl : e.platform.magicAccessors = ({} : Platform).magicAccessors := by rw [X.admits.platform]
  obtain ⟨c3, c4, hc3, hc4, hasg⟩ := Cond.castable_spec hcast
  cases Option.some.inj (hc3.symm.trans hcl)
  obtain ⟨c5, hc5, hcl5⟩ := Cond.classLink_spec hown hlink e.platform hpl
  cases Option.some.inj (hc4.symm.trans hc5)
  obtain ⟨vm', X', st⟩ := X.thenCaughtThrough q (g := F0 m pc ls rest) rfl (Steps.refl _) (by rw [hT]; exact hcell) (by rw [hv]; rfl) (by obtain ⟨k9, h9, -⟩ := Vm.findClass_spec hcl; exact ⟨k9, h9⟩) pre x suf hsplit
    (fun z hz => by
      rcases hpass z hz with h | ⟨hz0, nm, hl1, hn1⟩
      · exact Or.inl h
      · obtain ⟨c6, hc6, hcl6⟩ := Cond.classLink_spec hown hl1 e.platform hpl
        obtain ⟨a8, b8, h1, h2, h3⟩ := hn1
        cases Option.some.inj (h1.symm.trans hcl)
        cases Option.some.inj (h2.symm.trans hc6)
        exact Or.inr ⟨hz0, _, hcl6, h3⟩) hx (Or.inr ⟨h0, c4, hcl5, hasg⟩)
  obtain ⟨t, a1, b1⟩ := kk (T.setVm vm') hT X'
  exact ⟨t, st.trans a1, b1⟩
end Rows
section Ends
variable {p : Program} {l : Launch} {e : Env} {R : Room} {s : State} {m : MethodId} {args : Array Value} {below : List Frame} {meth : Method} {c : Code} {H : Heap} {locs : List Loc} {cells slots : Nat} {Q : State → Prop}
variable {mc ms : Nat} {free : Addr → Prop} {A0 A1 : Nat → Prop} {H0 : Heap} {a : Array Value} {ls : Array Slot} {st0 rest : List Value}
variable {Qc : Array Value → State → Outcome → State → Prop} {XC : String → State → State → Prop}
/-- what a body that may throw owes at its end -/
def vx_MQ (below : List Frame) (Qc : Array Value → State → Outcome → State → Prop) (XC : String → State → State → Prop) (a : Array Value) (s : State) (mc ms : Nat) (free : Addr → Prop) : State → Prop := fun t =>
  ∃ o, t.status = .running ∧ Ended t below o ∧ vx_Q Qc XC mc ms free a s o t
theorem vx_ret {g : JFrame} {mc ms : Nat} (k : W p l e R s m args below meth c H locs cells slots (MQ below Qc args s mc ms free) g) : W p l e R s m args below meth c H locs cells slots (vx_MQ below Qc XC args s mc ms free) g := by
  intro T hT X
  obtain ⟨t, a1, o, b1, b2, b3, b4⟩ := k T hT X
  exact ⟨t, a1, o, b1, b2, Or.inl ⟨b3, b4⟩⟩
/-- not caught here: it goes on to the caller -/
theorem vx_widen {g : JFrame} {q : Addr} {k n : Nat} (h1 : cells ≤ k) (h2 : slots ≤ n) (kk : vx_W p l e R s m args below meth c H locs k n Q g q) : vx_W p l e R s m args below meth c H locs cells slots Q g q := fun T hT X => kk T hT (stand_widen X h1 h2)
theorem vx_out {pc : Nat} {E : String} {ce : Cell} {q : Addr} {mc ms : Nat} (hout : ∀ x ∈ c.exceptionTable.toList, covers x pc = false) (hlocks : meth.locks = false) (hcell : H[q]? = some ce) (hv : ce.vm = .none) (hcl : s.vm.findClass E = some ce.cls)
    (hx : ∀ t : State, t.heap = H → s.vm.Alike t.vm → XC E s t) (hf : ∀ z ∈ locs, free z.base) (hc : cells ≤ mc) (hs : slots ≤ ms) :
    vx_W p l e R s m args below meth c H locs cells slots (vx_MQ below Qc XC args s mc ms free) (F0 m pc ls rest) q := by
  intro T hT X
  obtain ⟨st1, hrun, hend, hW, hsm⟩ := X.leaveThrown q (g := F0 m pc ls rest) rfl rfl rfl hout hlocks
  have hcell9 : (T.setFrames (.throwing q :: below)).heap[q]? = some ce := by
    show T.heap[q]? = some ce
    rw [hT]; exact hcell
  exact ⟨_, st1, .threw q, hrun, hend, Or.inr ⟨q, rfl, E, ce, locs, hx _ hT hW.alike, hcell9, hv, hcl, hW, hsm.mono hc hs, hf⟩⟩
theorem vx_frame {U : State} {k n : Nat} (h : s.sameButNew ({ U with vm := s.vm } : State) locs k n) : s.heap.size ≤ U.heap.size ∧ ∀ q : Nat, q < s.heap.size → (∀ z ∈ locs, z.base ≠ q) → U.heap[q]? = s.heap[q]? := by
  obtain ⟨-, h2, -, -, -, h6⟩ := h
  refine ⟨h2, fun q hq hz => ?_⟩
  obtain ⟨c9, e1, e2, e3, e4⟩ := h6 q _ (Array.getElem?_eq_getElem hq)
  have hs : c9.slots = (s.heap[q]).slots := Array.ext_getElem? fun i => e4 i fun hm => hz _ hm rfl
  have h9 : c9 = s.heap[q] := by
    rw [hs] at e2
    exact e2
  have e5 : U.heap[q]? = some c9 := e1
  rw [e5, h9, Array.getElem?_eq_getElem hq]
/-- the words of a throw but the four that speak of the heap -/
def vx_no (w : Cond) : Bool := decide (w ≠ .isRef (.static Bundle.tN "UNASSIGNED_STACK" Bundle.steD)) && decide (w ≠ .isRef (.static Bundle.tN "SUPPRESSED_SENTINEL" Bundle.listD)) && decide (w ≠ .laysStatic Bundle.tN "UNASSIGNED_STACK" Bundle.steD) && decide (w ≠ .laysStatic Bundle.tN "SUPPRESSED_SENTINEL" Bundle.listD)
def vx_at0 (own : String) (ic : Nat) (X : String) (names : List String) : List Cond := (Bundle.ownAtoms0 own ic X names).filter vx_no
def vx_atS (own : String) (ic : Nat) (X : String) (names : List String) : List Cond := (Bundle.ownAtoms own ic X names).filter vx_no
/-- a word that the tables alone decide, or a good one -/
def vx_ot (w : Cond) : Bool := w.onTables || goodWord w
theorem vx_ot_at {args a' : Array Value} {s U : State} {w : Cond} (hW : s.WarmedH U.vm) (hvm : s.vm = U.vm) (hg : vx_ot w = true) (h : w.before args s = true) : w.before a' U = true := by
  simp only [vx_ot, Bool.or_eq_true] at hg
  rcases hg with hg | hg
  · exact va_tabs hg hvm h
  · exact word_at hW (good_of_word hg) h
/-- a list's words: the good ones out of the method's own list, the others by premises of their own -/
theorem vx_hat {args : Array Value} {s : State} {L B : List Cond} (h1 : ∀ w ∈ L.filter goodWord, w.before args s = true) (h2 : ∀ w ∈ L.filter (fun w => !goodWord w), w ∈ B) (h3 : ∀ w ∈ B, w.before args s = true) : ∀ w ∈ L, w.before args s = true := by
  intro w hw
  by_cases g : goodWord w = true
  · exact h1 w (List.mem_filter.mpr ⟨hw, g⟩)
  · refine h3 w (h2 w (List.mem_filter.mpr ⟨hw, ?_⟩))
    show (!goodWord w) = true
    cases hgw : goodWord w
    · rfl
    · exact absurd hgw g
theorem vx_c {args : Array Value} {s : State} {w : Cond} {B : List Cond} (h : w.before args s = true) (t : ∀ w ∈ B, w.before args s = true) : ∀ w' ∈ w :: B, w'.before args s = true := fun w' h' => (List.mem_cons.mp h').elim (fun e => by rw [e]; exact h) (t w')
theorem vx_n {args : Array Value} {s : State} : ∀ w ∈ ([] : List Cond), w.before args s = true := fun _ h => nomatch h
theorem vx_own {args : Array Value} {s : State} {L : List Cond} (h1 : ∀ w ∈ L.filter vx_no, w.before args s = true)
    (hU : (Cond.isRef (.static Bundle.tN "UNASSIGNED_STACK" Bundle.steD)).before args s = true) (hN : (Cond.isRef (.static Bundle.tN "SUPPRESSED_SENTINEL" Bundle.listD)).before args s = true)
    (lU : (Cond.laysStatic Bundle.tN "UNASSIGNED_STACK" Bundle.steD).before args s = true) (lN : (Cond.laysStatic Bundle.tN "SUPPRESSED_SENTINEL" Bundle.listD).before args s = true) : ∀ w ∈ L, w.before args s = true := by
  intro w hw
  by_cases e1 : w = .isRef (.static Bundle.tN "UNASSIGNED_STACK" Bundle.steD)
  · rw [e1]; exact hU
  · by_cases e2 : w = .isRef (.static Bundle.tN "SUPPRESSED_SENTINEL" Bundle.listD)
    · rw [e2]; exact hN
    · by_cases e3 : w = .laysStatic Bundle.tN "UNASSIGNED_STACK" Bundle.steD
      · rw [e3]; exact lU
      · by_cases e4 : w = .laysStatic Bundle.tN "SUPPRESSED_SENTINEL" Bundle.listD
        · rw [e4]; exact lN
        · exact h1 w (List.mem_filter.mpr ⟨hw, by unfold vx_no; rw [decide_eq_true e1, decide_eq_true e2, decide_eq_true e3, decide_eq_true e4]; rfl⟩)
/-- where a static field lies, its class's statics cell in H -/
def vx_L (C n d : String) (A : Nat → Prop) (U : State) (H : Heap) : Prop := ∃ (c : ClassId) (k : Class) (i : Nat) (f : Field) (a : Nat) (cell : Cell), U.vm.findClass C = some c ∧ U.fieldFound? C n d = some (c, k, i, f) ∧ f.isStatic = true ∧ k.statics = some a ∧ H[a]? = some cell ∧ cell.vm.isStatics = true ∧ cell.cls = c ∧ f.slot < cell.slots.size ∧ k.staticTypes[f.slot]? = some f.type ∧ ¬ A a
theorem vx_L.moved {C n d : String} {A : Nat → Prop} {u U : State} {H : Heap} (hvm : u.vm.Alike U.vm) (h : vx_L C n d A u H) : vx_L C n d A U H := by
  obtain ⟨c, k, i, f, a, cell, h1, h2, h3, h4, h5, h6, h7, h8, h9, h10⟩ := h
  obtain ⟨k', hi', he⟩ := State.fieldFound?_setVm hvm h2
  exact ⟨c, k', i, f, a, cell, by rw [hvm.findClass]; exact h1, hi', h3, by rw [he]; exact h4, h5, h6, h7, h8, by rw [he]; exact h9, h10⟩
theorem vx_L.kept {C n d : String} {A : Nat → Prop} {U : State} {H H1 : Heap} (h : vx_L C n d A U H) (hq : ∀ a : Nat, a < H.size → ¬ A a → H1[a]? = H[a]?) : vx_L C n d A U H1 := by
  obtain ⟨c, k, i, f, a, cell, h1, h2, h3, h4, h5, h6, h7, h8, h9, h10⟩ := h
  exact ⟨c, k, i, f, a, cell, h1, h2, h3, h4, by rw [hq a (Array.getElem?_eq_some_iff.mp h5).1 h10]; exact h5, h6, h7, h8, h9, h10⟩
theorem vx_L.narrow {C n d : String} {A B : Nat → Prop} {U : State} {H : Heap} (h : vx_L C n d A U H) (hAB : ∀ q, B q → A q) : vx_L C n d B U H := by
  obtain ⟨c, k, i, f, a, cell, h1, h2, h3, h4, h5, h6, h7, h8, h9, h10⟩ := h
  exact ⟨c, k, i, f, a, cell, h1, h2, h3, h4, h5, h6, h7, h8, h9, fun z => h10 (hAB _ z)⟩
theorem vx_L.word {C n d : String} {A : Nat → Prop} {s : State} {args : Array Value} (h : vx_L C n d A s s.heap) : (Cond.laysStatic C n d).before args s = true := by
  obtain ⟨c, k, i, f, a, cell, h1, h2, h3, h4, h5, h6, h7, h8, h9, -⟩ := h
  show (Cond.laysStatic C n d).holds args s none s [] = true
  exact Cond.laysStatic_of h1 h2 h3 h4 h5 h6 h7 h8 h9
/-- .. and what it holds: null or some reference -/
def vx_Zq (C n d : String) (A : Nat → Prop) (U : State) (H : Heap) : Prop := va_Zq C n d A U H ∧ vx_L C n d A U H
theorem vx_Zq.moved {C n d : String} {A : Nat → Prop} {u U : State} {H : Heap} (hvm : u.vm.Alike U.vm) (h : vx_Zq C n d A u H) : vx_Zq C n d A U H := ⟨va_Zq.moved hvm h.1, vx_L.moved hvm h.2⟩
theorem vx_Zq.kept {C n d : String} {A : Nat → Prop} {U : State} {H H1 : Heap} (h : vx_Zq C n d A U H) (hq : ∀ a : Nat, a < H.size → ¬ A a → H1[a]? = H[a]?) : vx_Zq C n d A U H1 := ⟨va_Zq.kept h.1 hq, vx_L.kept h.2 hq⟩
theorem vx_Zq.narrow {C n d : String} {A B : Nat → Prop} {U : State} {H : Heap} (h : vx_Zq C n d A U H) (hAB : ∀ q, B q → A q) : vx_Zq C n d B U H := ⟨va_Zq.narrow h.1 hAB, vx_L.narrow h.2 hAB⟩
theorem vx_Zqof {args : Array Value} {s : State} {C n d : String} {A : Nat → Prop} (hl : (Cond.laysStatic C n d).before args s = true) (hini : (Cond.initialized C).before args s = true) (h : (Cond.isRef (.static C n d)).before args s = true) (hA : ∀ a : Nat, a < s.heap.size → ¬ A a) : vx_Zq C n d A s s.heap := by
  refine ⟨va_Zqof hl hini h hA, ?_⟩
  obtain ⟨c, k, i, f, a, cell, h1, h2, h3, h4, h5, h6, h7, h8, h9⟩ := Cond.laysStatic_spec hl
  exact ⟨c, k, i, f, a, cell, h1, h2, h3, h4, h5, h6, h7, h8, h9, hA a (Array.getElem?_eq_some_iff.mp h5).1⟩
theorem vx_isRef {C n d : String} {v : Value} {A : Nat → Prop} {s : State} {args : Array Value} (h : va_Z C n d v A s s.heap) (hv : v.isRef = true) : (Cond.isRef (.static C n d)).before args s = true := by
  obtain ⟨cf, kf, fi, f, a, cell, h1, h2, h3, h4, h5, h6, h7, -⟩ := h
  have he : (Term.static C n d).eval args s none [] s = some v := by
    simp [Term.eval, State.fieldNamed?, h1, h2, h4, h5, h6, h7]
  simp only [Cond.before, Cond.holds, Cond.value, he]
  cases v <;> simp_all [Value.isRef]
theorem vx_isRefq {C n d : String} {A : Nat → Prop} {s : State} {args : Array Value} (h : va_Zq C n d A s s.heap) : (Cond.isRef (.static C n d)).before args s = true := by
  rcases h with h | ⟨t, h⟩
  · exact vx_isRef h rfl
  · exact vx_isRef h rfl
/-- the same frame, seen from here: as if the method were called anew in this heap -/
theorem vx_rebase {T : State} (X : Stand p l e R s m args below meth c T locs cells slots) {R' : Room} (hf : R'.frames ≤ R.frames) (hl : R'.locals ≤ R.locals) (hc : cells + R'.cells ≤ R.cells) (hs : slots + R'.slots ≤ R.slots) :
    Stand p l e R' ((T.setVm s.vm).setFrames (.invoking m args :: below)) m args below meth c T [] 0 0 := by
  have htop : (T.setVm s.vm).topJava?.isSome := X.here.top
  have hF : ((T.setVm s.vm).setFrames (.invoking m args :: below)).frames = .invoking m args :: below := State.frames_setFrames _ (State.cur_lt_of_top htop)
  obtain ⟨g₀, hg0⟩ := Option.isSome_iff_exists.mp htop
  obtain ⟨r, hr⟩ := State.topJava?_eq_some.mp hg0
  have hl9 : e.platform.stackLimits (T.setVm s.vm).me = e.platform.stackLimits s.me := X.limits
  have hb9 : (T.setVm s.vm).me.stackBytes = s.me.stackBytes := X.bytes
  refine ⟨X.admits, X.cas, X.clock, hF, ?_, X.hears, X.method, X.code, X.here, X.tail, X.warmed, ?_, ?_, ?_⟩
  · have h := X.room
    have hU : ((T.setVm s.vm).setFrames (.invoking m args :: below)).localsInUse = s.localsInUse := by
      rw [State.localsInUse_invoking hF (meth := meth) (c := c) X.method X.code, State.localsInUse_invoking X.frames X.method X.code]
    simp only [State.hasRoom, Bool.and_eq_true, decide_eq_true_eq] at h ⊢
    obtain ⟨⟨⟨⟨h1, h2, h3, h4, h5, h6⟩, h7⟩, h8⟩, h9⟩ := h
    rw [X.frames, List.length_cons] at h2 h3
    have q1 := X.heapSize
    have q2 := X.used
    simp only [hF, hU, List.length_cons, State.stackLimits_setFrames, State.stackBytes_setFrames, hl9, hb9]
    refine ⟨⟨⟨⟨by omega, by omega, by omega, by omega, by omega, h6⟩, ?_⟩, ?_⟩, X.book⟩
    · show T.heap.size + R'.cells ≤ e.platform.maxCells
      omega
    · show T.slotsUsed + R'.slots ≤ e.platform.maxSlots
      omega
  · rw [State.stackLimits_setFrames]; rfl
  · rw [State.stackBytes_setFrames]; rfl
  · refine ⟨?_, Nat.le_refl _, Nat.le_refl _, ?_, ?_, fun a c9 h9 => ⟨c9, h9, rfl, rfl, fun _ _ => rfl⟩⟩
    · obtain ⟨t, ht, -⟩ := State.frames_cons hr
      show T.setVm s.vm = { ((T.setVm s.vm).setFrames (.invoking m args :: below)).setFrames (T.setVm s.vm).frames with heap := T.heap, slotsUsed := T.slotsUsed }
      rw [State.setFrames_setFrames, State.setFrames_self ht]
      rfl
    · show T.slotsUsed = T.slotsUsed + ((T.heap.toList.drop T.heap.size).map (·.slots.size)).sum
      rw [List.drop_eq_nil_of_le (Nat.le_of_eq Array.length_toList)]
      rfl
    · show ((T.heap.toList.drop T.heap.size).map (·.slots.size)).sum ≤ 0
      rw [List.drop_eq_nil_of_le (Nat.le_of_eq Array.length_toList)]
      exact Nat.le_refl _
/-- 'throw new E()': new; dup; invokespecial; athrow -/
theorem vx_throw0 {cc : ByteArray} {pc : Nat} (hexec : p.tables.exec = Jvm.exec) (hb : c.code = cc) (hl : l.stackTraces = false) {own cls : String} {names : List String} {ik ic mc ms : Nat} {A : Nat → Prop}
    (hown : s.vm.findClass own = some m.cls) (hcls : Bundle.fit cls = true) (hnames : ∀ n ∈ names, Bundle.fit n = true)
    (hk : (Cond.classLink own ik cls).before args s = true) (hini : (Cond.initialized cls).before args s = true) (hat : ∀ w ∈ vx_at0 own ic cls names, w.before args s = true)
    (hgood : ∀ w ∈ Cond.classLink own ik cls :: Cond.initialized cls :: vx_at0 own ic cls names, vx_ot w = true)
    (hU : vx_Zq Bundle.tN "UNASSIGNED_STACK" Bundle.steD A s s.heap) (hN : vx_Zq Bundle.tN "SUPPRESSED_SENTINEL" Bundle.listD A s s.heap) (hS : va_S A s.heap H locs) (hsize : ls.size = c.maxLocals)
    (d0 : decode cc pc = .ok (.new ik, 3)) (d3 : decode cc (pc + 3) = .ok (.dup, 1)) (d4 : decode cc (pc + 4) = .ok (.invokespecial ic, 3)) (d7 : decode cc (pc + 7) = .ok (.athrow, 1))
    (hout : ∀ x ∈ c.exceptionTable.toList, covers x (pc + 7) = false)
    (hRframes : names.length + 3 < R.frames) (hRlocals : (rest.map fun v => v.category).sum + (13 * (names.length + 1) + 42) ≤ R.locals) (hRcells : cells + 1 ≤ R.cells) (hRslots : slots + 6 ≤ R.slots) (hlocks : meth.locks = false)
    (hx : ∀ t : State, s.vm.Alike t.vm → H.size ≤ t.heap.size → (∀ q : Nat, q < H.size → t.heap[q]? = H[q]?) → XC cls s t)
    (hf : ∀ z ∈ locs, free z.base) (hc : cells + 1 ≤ mc) (hs : slots + 6 ≤ ms) :
    W p l e R s m args below meth c H locs cells slots (vx_MQ below Qc XC args s mc ms free) (F0 m pc ls rest) := by
  intro T hT X
  have htr : e.platform.stackTraces = false := (show e.platform.stackTraces = l.stackTraces by rw [X.admits.platform]).trans hl
  have Y := vx_rebase X (R' := { frames := R.frames, locals := R.locals, cells := 1, slots := 6 }) (Nat.le_refl _) (Nat.le_refl _) hRcells hRslots
  obtain ⟨s', hA⟩ : ∃ z, z = (T.setVm s.vm).setFrames (.invoking m args :: below) := ⟨_, rfl⟩
  rw [← hA] at Y
  have hvm : s'.vm = s.vm := by rw [hA]; rfl
  have hhp : s'.heap = H := by rw [hA]; exact hT
  have hW0 : s.WarmedH s'.vm := by rw [hvm]; exact State.WarmedH.refl s
  have hat' : ∀ w ∈ vx_at0 own ic cls names, w.before args s' = true := fun w hw => vx_ot_at hW0 hvm.symm (hgood w (List.mem_cons_of_mem _ (List.mem_cons_of_mem _ hw))) (hat w hw)
  have hk' : (Cond.classLink own ik cls).before args s' = true := vx_ot_at hW0 hvm.symm (hgood _ List.mem_cons_self) hk
  have hini' : (Cond.initialized cls).before args s' = true := vx_ot_at hW0 hvm.symm (hgood _ (List.mem_cons_of_mem _ List.mem_cons_self)) hini
  have hU' : vx_Zq Bundle.tN "UNASSIGNED_STACK" Bundle.steD A s' s'.heap := by rw [hhp]; exact vx_Zq.moved hW0.alike (hU.kept hS.2.1)
  have hN' : vx_Zq Bundle.tN "SUPPRESSED_SENTINEL" Bundle.listD A s' s'.heap := by rw [hhp]; exact vx_Zq.moved hW0.alike (hN.kept hS.2.1)
  have h : ∀ w ∈ Bundle.ownAtoms0 own ic cls names, w.before args s' = true := vx_own hat' (vx_isRefq hU'.1) (vx_isRefq hN'.1) hU'.2.word hN'.2.word
  have hown' : s'.vm.findClass own = some m.cls := by rw [hvm]; exact hown
  have hins : (Cond.instantiable cls 6).before args s' = true := h _ (by simp [Bundle.ownAtoms0])
  obtain ⟨vm₁, cX, kX, hfX, hkX, -, -, X₁, st1⟩ := Y.newCold hexec (own := own) (C := cls) (index := ik) (n := 6) hown' hk' hins hini'
    (g := F0 m pc ls rest) rfl (by rw [hb]; exact d0) (Nat.le_refl _) (Nat.le_refl _)
  generalize hT1 : (T.setVm vm₁).pushCell { cls := cX, slots := kX.instanceTypes.map defaultValue, vm := .none } = T1 at X₁ st1
  have hcat : (Value.ref T.heap.size).category = 1 := rfl
  have hcellA : T1.heap[T.heap.size]? = some (freshCell cX kX) := by rw [← hT1]; exact State.heap_pushCell_size _ _
  have d3' : decode c.code (pc + 3) = .ok (.dup, 1) := by rw [hb]; exact d3
  obtain ⟨U, hsteps, hrun, hend, hW, hsame, ce, hce, hO⟩ := X₁.ctorThrow0 hexec htr (own := own) (cls := cls) (names := names) (ic := ic) hown' hcls hnames h (fun x hx => nomatch hx) hfX hkX hcellA (by rw [hhp, hT]; exact Nat.le_refl _)
    (g := { method := m, pc := pc + 4, locals := ls, stack := .ref T.heap.size :: .ref T.heap.size :: rest, locked := none }) rfl hsize rfl rfl (rest := rest) rfl
    (by rw [hb]; exact d4) (by rw [hb]; exact d7) hout hRframes (by simp only [List.map_cons, List.sum_cons, hcat]; omega) hlocks
  obtain ⟨f1, f2⟩ := vx_frame hsame
  rw [hhp] at f1 f2
  have hWs : s.WarmedH U.vm := State.WarmedH.trans hW0 hW
  have hcl : s.vm.findClass cls = some ce.cls := by
    have h9 := hO.cls
    rw [hvm] at h9
    exact h9
  have hall : s.sameButNew ({ U with vm := s.vm } : State) locs mc ms := by
    subst hA
    obtain ⟨e1, e2⟩ := hsame
    rw [State.setFrames_setFrames] at e1
    have h2 : (T.setVm s.vm).sameButNew ({ U with vm := s.vm } : State) [] (0 + 1) (0 + 6) := ⟨e1, e2⟩
    have h3 := X.same.trans h2
    rw [List.append_nil] at h3
    exact h3.mono hc hs
  refine ⟨U, ?_, .threw T.heap.size, hrun, hend, Or.inr ⟨T.heap.size, rfl, cls, ce, locs, hx U hWs.alike f1 (fun q hq => f2 q hq (fun z hz => nomatch hz)), hce, hO.vm, hcl, hWs, hall, hf⟩⟩
  refine st1 _ ?_
  show Steps p.tables e below (T1.setTop { method := m, pc := pc + 3, locals := ls, stack := .ref T.heap.size :: rest, locked := none }) _
  jvm_step X₁.here [X₁.here.top, hexec, d3', Value.category]
  exact hsteps
/-- 'throw new E("text")': new; dup; ldc; invokespecial; athrow -/
theorem vx_throwS {cc : ByteArray} {pc : Nat} (hexec : p.tables.exec = Jvm.exec) (hb : c.code = cc) (hl : l.stackTraces = false) {own cls text : String} {names : List String} {ik is ic mc ms sa : Nat} {A : Nat → Prop}
    (hown : s.vm.findClass own = some m.cls) (hcls : Bundle.fit cls = true) (hnames : ∀ n ∈ names, Bundle.fit n = true)
    (hk : (Cond.classLink own ik cls).before args s = true) (hini : (Cond.initialized cls).before args s = true) (hstr : vk_R own is text sa s) (hat : ∀ w ∈ vx_atS own ic cls names, w.before args s = true)
    (hgood : ∀ w ∈ Cond.classLink own ik cls :: Cond.initialized cls :: vx_atS own ic cls names, vx_ot w = true)
    (hU : vx_Zq Bundle.tN "UNASSIGNED_STACK" Bundle.steD A s s.heap) (hN : vx_Zq Bundle.tN "SUPPRESSED_SENTINEL" Bundle.listD A s s.heap) (hS : va_S A s.heap H locs) (hsize : ls.size = c.maxLocals)
    (d0 : decode cc pc = .ok (.new ik, 3)) (d3 : decode cc (pc + 3) = .ok (.dup, 1)) (d4 : decode cc (pc + 4) = .ok (.ldc is, 2)) (d6 : decode cc (pc + 6) = .ok (.invokespecial ic, 3)) (d9 : decode cc (pc + 9) = .ok (.athrow, 1))
    (hout : ∀ x ∈ c.exceptionTable.toList, covers x (pc + 9) = false)
    (hRframes : names.length + 3 < R.frames) (hRlocals : (rest.map fun v => v.category).sum + (13 * (names.length + 1) + 43) ≤ R.locals) (hRcells : cells + 1 ≤ R.cells) (hRslots : slots + 6 ≤ R.slots) (hlocks : meth.locks = false)
    (hx : ∀ t : State, s.vm.Alike t.vm → H.size ≤ t.heap.size → (∀ q : Nat, q < H.size → t.heap[q]? = H[q]?) → XC cls s t)
    (hf : ∀ z ∈ locs, free z.base) (hc : cells + 1 ≤ mc) (hs : slots + 6 ≤ ms) :
    W p l e R s m args below meth c H locs cells slots (vx_MQ below Qc XC args s mc ms free) (F0 m pc ls rest) := by
  intro T hT X
  have htr : e.platform.stackTraces = false := (show e.platform.stackTraces = l.stackTraces by rw [X.admits.platform]).trans hl
  have Y := vx_rebase X (R' := { frames := R.frames, locals := R.locals, cells := 1, slots := 6 }) (Nat.le_refl _) (Nat.le_refl _) hRcells hRslots
  obtain ⟨s', hA⟩ : ∃ z, z = (T.setVm s.vm).setFrames (.invoking m args :: below) := ⟨_, rfl⟩
  rw [← hA] at Y
  have hvm : s'.vm = s.vm := by rw [hA]; rfl
  have hhp : s'.heap = H := by rw [hA]; exact hT
  have hW0 : s.WarmedH s'.vm := by rw [hvm]; exact State.WarmedH.refl s
  have hat' : ∀ w ∈ vx_atS own ic cls names, w.before args s' = true := fun w hw => vx_ot_at hW0 hvm.symm (hgood w (List.mem_cons_of_mem _ (List.mem_cons_of_mem _ hw))) (hat w hw)
  have hk' : (Cond.classLink own ik cls).before args s' = true := vx_ot_at hW0 hvm.symm (hgood _ List.mem_cons_self) hk
  have hini' : (Cond.initialized cls).before args s' = true := vx_ot_at hW0 hvm.symm (hgood _ (List.mem_cons_of_mem _ List.mem_cons_self)) hini
  have hU' : vx_Zq Bundle.tN "UNASSIGNED_STACK" Bundle.steD A s' s'.heap := by rw [hhp]; exact vx_Zq.moved hW0.alike (hU.kept hS.2.1)
  have hN' : vx_Zq Bundle.tN "SUPPRESSED_SENTINEL" Bundle.listD A s' s'.heap := by rw [hhp]; exact vx_Zq.moved hW0.alike (hN.kept hS.2.1)
  have h : ∀ w ∈ Bundle.ownAtoms own ic cls names, w.before args s' = true := vx_own hat' (vx_isRefq hU'.1) (vx_isRefq hN'.1) hU'.2.word hN'.2.word
  have hown' : s'.vm.findClass own = some m.cls := by rw [hvm]; exact hown
  have hins : (Cond.instantiable cls 6).before args s' = true := h _ (by simp [Bundle.ownAtoms])
  obtain ⟨vm₁, cX, kX, hfX, hkX, -, -, X₁, st1⟩ := Y.newCold hexec (own := own) (C := cls) (index := ik) (n := 6) hown' hk' hins hini'
    (g := F0 m pc ls rest) rfl (by rw [hb]; exact d0) (Nat.le_refl _) (Nat.le_refl _)
  generalize hT1 : (T.setVm vm₁).pushCell { cls := cX, slots := kX.instanceTypes.map defaultValue, vm := .none } = T1 at X₁ st1
  have hcat : (Value.ref T.heap.size).category = 1 := rfl
  have hcellA : T1.heap[T.heap.size]? = some (freshCell cX kX) := by rw [← hT1]; exact State.heap_pushCell_size _ _
  have d3' : decode c.code (pc + 3) = .ok (.dup, 1) := by rw [hb]; exact d3
  have d4' : decode c.code (pc + 4) = .ok (.ldc is, 2) := by rw [hb]; exact d4
  have hstr' : vk_R own is text sa s' := vk_R.warm hW0 hstr
  obtain ⟨U, hsteps, hrun, hend, hW, hsame, ce, hce, hO⟩ := X₁.ctorThrowS hexec htr (own := own) (cls := cls) (names := names) (ic := ic) hown' hcls hnames h (fun x hx => nomatch hx) hfX hkX hcellA (by rw [hhp, hT]; exact Nat.le_refl _) (msg := .ref sa) rfl
    (g := { method := m, pc := pc + 6, locals := ls, stack := .ref sa :: .ref T.heap.size :: .ref T.heap.size :: rest, locked := none }) rfl hsize rfl rfl (rest := rest) rfl
    (by rw [hb]; exact d6) (by rw [hb]; exact d9) hout hRframes (by simp only [List.map_cons, List.sum_cons, hcat]; omega) hlocks
  obtain ⟨f1, f2⟩ := vx_frame hsame
  rw [hhp] at f1 f2
  have hWs : s.WarmedH U.vm := State.WarmedH.trans hW0 hW
  have hcl : s.vm.findClass cls = some ce.cls := by
    have h9 := hO.cls
    rw [hvm] at h9
    exact h9
  have hall : s.sameButNew ({ U with vm := s.vm } : State) locs mc ms := by
    subst hA
    obtain ⟨e1, e2⟩ := hsame
    rw [State.setFrames_setFrames] at e1
    have h2 : (T.setVm s.vm).sameButNew ({ U with vm := s.vm } : State) [] (0 + 1) (0 + 6) := ⟨e1, e2⟩
    have h3 := X.same.trans h2
    rw [List.append_nil] at h3
    exact h3.mono hc hs
  refine ⟨U, ?_, .threw T.heap.size, hrun, hend, Or.inr ⟨T.heap.size, rfl, cls, ce, locs, hx U hWs.alike f1 (fun q hq => f2 q hq (fun z hz => nomatch hz)), hce, hO.vm, hcl, hWs, hall, hf⟩⟩
  refine st1 _ ?_
  show Steps p.tables e below (T1.setTop { method := m, pc := pc + 3, locals := ls, stack := .ref T.heap.size :: rest, locked := none }) _
  jvm_step X₁.here [X₁.here.top, hexec, d3', Value.category]
  exact X₁.ldcString hexec (own := own) (text := text) (index := is) (a := sa) hown' hstr'.1 hstr'.2
    (g := { method := m, pc := pc + 4, locals := ls, stack := .ref T.heap.size :: .ref T.heap.size :: rest, locked := none }) rfl d4' _ hsteps
/-- 'throw new E("text")', the text by a wide index -/
theorem vx_throwSW {cc : ByteArray} {pc : Nat} (hexec : p.tables.exec = Jvm.exec) (hb : c.code = cc) (hl : l.stackTraces = false) {own cls text : String} {names : List String} {ik is ic mc ms sa : Nat} {A : Nat → Prop}
    (hown : s.vm.findClass own = some m.cls) (hcls : Bundle.fit cls = true) (hnames : ∀ n ∈ names, Bundle.fit n = true)
    (hk : (Cond.classLink own ik cls).before args s = true) (hini : (Cond.initialized cls).before args s = true) (hstr : vk_R own is text sa s) (hat : ∀ w ∈ vx_atS own ic cls names, w.before args s = true)
    (hgood : ∀ w ∈ Cond.classLink own ik cls :: Cond.initialized cls :: vx_atS own ic cls names, vx_ot w = true)
    (hU : vx_Zq Bundle.tN "UNASSIGNED_STACK" Bundle.steD A s s.heap) (hN : vx_Zq Bundle.tN "SUPPRESSED_SENTINEL" Bundle.listD A s s.heap) (hS : va_S A s.heap H locs) (hsize : ls.size = c.maxLocals)
    (d0 : decode cc pc = .ok (.new ik, 3)) (d3 : decode cc (pc + 3) = .ok (.dup, 1)) (d4 : decode cc (pc + 4) = .ok (.ldc_w is, 3)) (d7 : decode cc (pc + 7) = .ok (.invokespecial ic, 3)) (d10 : decode cc (pc + 10) = .ok (.athrow, 1))
    (hout : ∀ x ∈ c.exceptionTable.toList, covers x (pc + 10) = false)
    (hRframes : names.length + 3 < R.frames) (hRlocals : (rest.map fun v => v.category).sum + (13 * (names.length + 1) + 43) ≤ R.locals) (hRcells : cells + 1 ≤ R.cells) (hRslots : slots + 6 ≤ R.slots) (hlocks : meth.locks = false)
    (hx : ∀ t : State, s.vm.Alike t.vm → H.size ≤ t.heap.size → (∀ q : Nat, q < H.size → t.heap[q]? = H[q]?) → XC cls s t)
    (hf : ∀ z ∈ locs, free z.base) (hc : cells + 1 ≤ mc) (hs : slots + 6 ≤ ms) :
    W p l e R s m args below meth c H locs cells slots (vx_MQ below Qc XC args s mc ms free) (F0 m pc ls rest) := by
  intro T hT X
  have htr : e.platform.stackTraces = false := (show e.platform.stackTraces = l.stackTraces by rw [X.admits.platform]).trans hl
  have Y := vx_rebase X (R' := { frames := R.frames, locals := R.locals, cells := 1, slots := 6 }) (Nat.le_refl _) (Nat.le_refl _) hRcells hRslots
  obtain ⟨s', hA⟩ : ∃ z, z = (T.setVm s.vm).setFrames (.invoking m args :: below) := ⟨_, rfl⟩
  rw [← hA] at Y
  have hvm : s'.vm = s.vm := by rw [hA]; rfl
  have hhp : s'.heap = H := by rw [hA]; exact hT
  have hW0 : s.WarmedH s'.vm := by rw [hvm]; exact State.WarmedH.refl s
  have hat' : ∀ w ∈ vx_atS own ic cls names, w.before args s' = true := fun w hw => vx_ot_at hW0 hvm.symm (hgood w (List.mem_cons_of_mem _ (List.mem_cons_of_mem _ hw))) (hat w hw)
  have hk' : (Cond.classLink own ik cls).before args s' = true := vx_ot_at hW0 hvm.symm (hgood _ List.mem_cons_self) hk
  have hini' : (Cond.initialized cls).before args s' = true := vx_ot_at hW0 hvm.symm (hgood _ (List.mem_cons_of_mem _ List.mem_cons_self)) hini
  have hU' : vx_Zq Bundle.tN "UNASSIGNED_STACK" Bundle.steD A s' s'.heap := by rw [hhp]; exact vx_Zq.moved hW0.alike (hU.kept hS.2.1)
  have hN' : vx_Zq Bundle.tN "SUPPRESSED_SENTINEL" Bundle.listD A s' s'.heap := by rw [hhp]; exact vx_Zq.moved hW0.alike (hN.kept hS.2.1)
  have h : ∀ w ∈ Bundle.ownAtoms own ic cls names, w.before args s' = true := vx_own hat' (vx_isRefq hU'.1) (vx_isRefq hN'.1) hU'.2.word hN'.2.word
  have hown' : s'.vm.findClass own = some m.cls := by rw [hvm]; exact hown
  have hins : (Cond.instantiable cls 6).before args s' = true := h _ (by simp [Bundle.ownAtoms])
  obtain ⟨vm₁, cX, kX, hfX, hkX, -, -, X₁, st1⟩ := Y.newCold hexec (own := own) (C := cls) (index := ik) (n := 6) hown' hk' hins hini'
    (g := F0 m pc ls rest) rfl (by rw [hb]; exact d0) (Nat.le_refl _) (Nat.le_refl _)
  generalize hT1 : (T.setVm vm₁).pushCell { cls := cX, slots := kX.instanceTypes.map defaultValue, vm := .none } = T1 at X₁ st1
  have hcat : (Value.ref T.heap.size).category = 1 := rfl
  have hcellA : T1.heap[T.heap.size]? = some (freshCell cX kX) := by rw [← hT1]; exact State.heap_pushCell_size _ _
  have d3' : decode c.code (pc + 3) = .ok (.dup, 1) := by rw [hb]; exact d3
  have d4' : decode c.code (pc + 4) = .ok (.ldc_w is, 3) := by rw [hb]; exact d4
  have hstr' : vk_R own is text sa s' := vk_R.warm hW0 hstr
  obtain ⟨U, hsteps, hrun, hend, hW, hsame, ce, hce, hO⟩ := X₁.ctorThrowS hexec htr (own := own) (cls := cls) (names := names) (ic := ic) hown' hcls hnames h (fun x hx => nomatch hx) hfX hkX hcellA (by rw [hhp, hT]; exact Nat.le_refl _) (msg := .ref sa) rfl
    (g := { method := m, pc := pc + 7, locals := ls, stack := .ref sa :: .ref T.heap.size :: .ref T.heap.size :: rest, locked := none }) rfl hsize rfl rfl (rest := rest) rfl
    (by rw [hb]; exact d7) (by rw [hb]; exact d10) hout hRframes (by simp only [List.map_cons, List.sum_cons, hcat]; omega) hlocks
  obtain ⟨f1, f2⟩ := vx_frame hsame
  rw [hhp] at f1 f2
  have hWs : s.WarmedH U.vm := State.WarmedH.trans hW0 hW
  have hcl : s.vm.findClass cls = some ce.cls := by
    have h9 := hO.cls
    rw [hvm] at h9
    exact h9
  have hall : s.sameButNew ({ U with vm := s.vm } : State) locs mc ms := by
    subst hA
    obtain ⟨e1, e2⟩ := hsame
    rw [State.setFrames_setFrames] at e1
    have h2 : (T.setVm s.vm).sameButNew ({ U with vm := s.vm } : State) [] (0 + 1) (0 + 6) := ⟨e1, e2⟩
    have h3 := X.same.trans h2
    rw [List.append_nil] at h3
    exact h3.mono hc hs
  refine ⟨U, ?_, .threw T.heap.size, hrun, hend, Or.inr ⟨T.heap.size, rfl, cls, ce, locs, hx U hWs.alike f1 (fun q hq => f2 q hq (fun z hz => nomatch hz)), hce, hO.vm, hcl, hWs, hall, hf⟩⟩
  refine st1 _ ?_
  show Steps p.tables e below (T1.setTop { method := m, pc := pc + 3, locals := ls, stack := .ref T.heap.size :: rest, locked := none }) _
  jvm_step X₁.here [X₁.here.top, hexec, d3', Value.category]
  exact X₁.ldcStringW hexec (own := own) (text := text) (index := is) (a := sa) hown' hstr'.1 hstr'.2
    (g := { method := m, pc := pc + 4, locals := ls, stack := .ref T.heap.size :: .ref T.heap.size :: rest, locked := none }) rfl d4' _ hsteps
end Ends
section Bodies
variable {l : Launch}
theorem vx_ofW {y : MethodName} {ws ws' : List Cond} {rm : Room} {Pc : Array Value → State → Prop} {Qc : Array Value → State → Outcome → State → Prop} {XC : String → State → State → Prop} {mc ms : Nat} {free : Addr → Prop} {cc : ByteArray} {maxL : Nat} {ret : Option FieldType}
    (hy : plainName y.cls = true) (hw : ws = Cond.code y cc maxL ret :: ws')
    (body : ∀ p e s m args below meth c s₁, BodyLoose p l y (headSpec ws rm) cc maxL ret e s m args below meth c s₁ → c.maxLocals = maxL → (∀ x ∈ c.exceptionTable.toList, False) → Pc args s →
      W p l e (headSpec ws rm).room s m args below meth c s.heap [] 0 0 (vx_MQ below Qc XC args s mc ms free) (entryFrame m args maxL)) : vx_Met l y ws rm Pc Qc XC mc ms free := by
  refine MetFree.of_bodyS (code := cc) (maxLocals := maxL) (ret := ret) hy ?_ ?_
  · intro args s m h hn
    obtain ⟨meth, c, h1, h2, h3, h4, h5, h6, -, -⟩ := Cond.code_spec hn (atoms_spec (ws := ws) h _ (by rw [hw]; exact List.mem_cons_self))
    exact ⟨meth, c, h1, h2, h3, h4, h5, h6⟩
  · intro p e s m args below meth c s₁ B hml hP _
    have hh0 : s₁.heap = s.heap := by rw [B.state]; rfl
    have ht : ∀ x ∈ c.exceptionTable.toList, False := by
      obtain ⟨meth9, c9, h1, h2, -, -, -, -, h7, -⟩ := Cond.code_spec B.named (atoms_spec (ws := ws) B.pre _ (by rw [hw]; exact List.mem_cons_self))
      cases Option.some.inj (h1.symm.trans B.method)
      cases Option.some.inj (h2.symm.trans (Stand.of_body B).code)
      intro x hx
      rw [Array.isEmpty_iff.mp h7] at hx
      cases hx
    obtain ⟨t, a1, o, b1, b2, b3⟩ := body p e s m args below meth c s₁ B hml ht hP s₁ hh0 (Stand.of_body B)
    exact ⟨t, o, a1, b1, b2, b3⟩
/-- the table of a body with handlers -/
theorem vx_table {p : Program} {x y : MethodName} {S : Spec} {cc bytes : ByteArray} {maxL maxL' : Nat} {ret ret' : Option FieldType} {e : Env} {s s₁ : State} {m : MethodId} {args : Array Value} {below : List Frame} {meth : Method} {c : Code} {hh : List (Nat × Nat × Nat × Nat)}
    (B : BodyLoose p l y S cc maxL ret e s m args below meth c s₁) (h : (Cond.codeWith y bytes maxL' ret' hh).before args s = true) : c.exceptionTable.toList = tableOf hh := by
  obtain ⟨m9, meth9, c9, hn9, h1, h2, -, -, h6, -⟩ := Cond.codeWith_spec h
  cases Option.some.inj (hn9.symm.trans B.named)
  cases Option.some.inj (h1.symm.trans B.method)
  cases Option.some.inj (h2.symm.trans (Stand.of_body B).code)
  rw [← h6, table_eq]
end Bodies
end VXA
/-! ===== END ===== -/
/-! ===== BEGIN a static call of a method with an exception table ===== -/
section VXS
variable {p : Program} {l : Launch} {e : Env} {R : Room} {s : State} {m : MethodId} {args : Array Value} {below : List Frame} {meth : Method} {c : Code} {T : State} {H : Heap} {locs : List Loc} {cells slots : Nat}
abbrev vx_CSW (R : Room) (s : State) (args : Array Value) (own : String) (index : Nat) (y : MethodName) (bytes : ByteArray) (maxL : Nat) (ret : Option FieldType) (hh : List (Nat × Nat × Nat × Nat)) (ws : List Cond) (rm : Room) (mc ms n : Nat) : Prop :=
  (rm.cells = mc ∧ rm.slots = ms ∧ rm.frames + 1 ≤ R.frames ∧ 8 + (maxL + 11) + rm.locals ≤ R.locals ∧ (∀ w ∈ ws, ∀ (a' : Array Value) (U : State), s.WarmedH U.vm → w.before a' U = true) ∧ Cond.codeWith y bytes maxL ret hh ∈ ws) ∧
  (Cond.codeWith y bytes maxL ret hh).before args s = true ∧ (Cond.initialized y.cls).before args s = true ∧ (y.cls ≠ "java/lang/invoke/MethodHandle" ∧ y.cls ≠ "java/lang/invoke/VarHandle") ∧
  (∀ sig, parseMethodDescriptor y.desc = some sig → n = sig.parameters.length) ∧ (Cond.methodLink own index y).before args s = true ∧ (Cond.static y).before args s = true
theorem vx_cwSW {own : String} {index maxL mc ms : Nat} {y : MethodName} {bytes : ByteArray} {ret : Option FieldType} {hh : List (Nat × Nat × Nat × Nat)} {Ts ws ws' : List Cond} {rm : Room} (n : Nat) (ht : ∀ w ∈ Ts, w.before args s = true) (hT : GoodIn Ts (va_wsS own index y ws)) (hw : ws = Cond.codeWith y bytes maxL ret hh :: ws') (hrc : rm.cells = mc) (hrs : rm.slots = ms)
    (hd : y.cls ≠ "java/lang/invoke/MethodHandle" ∧ y.cls ≠ "java/lang/invoke/VarHandle" ∧ (parseMethodDescriptor y.desc).map (fun d => d.parameters.length) = some n) (hR : rm.frames + 1 ≤ R.frames ∧ 8 + (maxL + 11) + rm.locals ≤ R.locals) :
    vx_CSW R s args own index y bytes maxL ret hh ws rm mc ms n := by
  have ok : ∀ w ∈ va_wsS own index y ws, w.before args s = true := fun w h => ht w (hT w h).1
  have hG : GoodIn Ts ws := fun w h => hT w (by unfold va_wsS; exact List.mem_append_right _ h)
  have hc : Cond.codeWith y bytes maxL ret hh ∈ ws := by rw [hw]; exact List.mem_cons_self
  refine ⟨⟨hrc, hrs, hR.1, hR.2, pay_in ht hG, hc⟩, ht _ (hG _ hc).1, ok _ (by simp [va_wsS]), ⟨hd.1, hd.2.1⟩, fun sig h => ?_, ok _ (by simp [va_wsS]), ok _ (by simp [va_wsS])⟩
  have h2 := hd.2.2
  rw [h] at h2
  exact (Option.some.inj h2).symm
theorem vx_callSW (X : Stand p l e R s m args below meth c T locs cells slots) (hexec : p.tables.exec = Jvm.exec) {own : String} {index : Nat} {y : MethodName} {bytes : ByteArray} {maxL : Nat} {ret : Option FieldType} {hh : List (Nat × Nat × Nat × Nat)}
    (hown : s.vm.findClass own = some m.cls) (hlink : (Cond.methodLink own index y).before args s = true) (hstat : (Cond.static y).before args s = true) (hinit : (Cond.initialized y.cls).before args s = true)
    (hcode : (Cond.codeWith y bytes maxL ret hh).before args s = true) (hy : y.cls ≠ "java/lang/invoke/MethodHandle" ∧ y.cls ≠ "java/lang/invoke/VarHandle")
    {W9 : Nat} {Pre : Pt → Array Value → Prop} {Post : Pt → Array Value → Option Value → Pt → Prop} (hK : Back l R p e below s args y 3 W9 Pre Post)
    {g : JFrame} (hg : g.method = m) (hsize : g.locals.size = c.maxLocals) {argsL rest : List Value} (hlen : ∀ sig, parseMethodDescriptor y.desc = some sig → argsL.length = sig.parameters.length)
    (hstack : g.stack = argsL.reverse ++ rest) (hW : 2 * g.monitorRoom + (rest.map fun v => v.category).sum ≤ W9) (hdg : decode c.code g.pc = .ok (.invokestatic index, 3))
    (hpre : ∀ vm₁, s.WarmedH vm₁ → Pre ⟨T.setVm vm₁, locs, cells, slots⟩ argsL.toArray) :
    ∃ (v : Option Value) (vm₁ : Vm) (B : Pt), s.WarmedH vm₁ ∧ Stand p l e R s m args below meth c B.U B.locs B.cells B.slots ∧ Post ⟨T.setVm vm₁, locs, cells, slots⟩ argsL.toArray v B ∧
      ∀ target, Steps p.tables e below (B.U.setTop { g with pc := g.pc + 3, stack := v.toList ++ rest }) target → Steps p.tables e below (T.setTop g) target := by
  obtain ⟨mk, methM, cM, hnamed, hmethM, -, -, -, -, -, -, hsigM⟩ := Cond.codeWith_spec hcode
  have hstatic : methM.isStatic = true := Cond.static_spec hnamed hmethM hstat
  obtain ⟨kP, hkP, -⟩ := className_of_methodNamed hnamed
  have hinitP : kP.init = .initialized := Cond.initialized_spec (findClass_of_methodNamed hnamed) hkP hinit
  obtain ⟨vm₁, X₁, hstep₁⟩ := X.invokestatic hexec hown hlink hnamed hmethM hstatic hkP hinitP hy (g := g) hg (argsL := argsL) (rest := rest) (hlen _ hsigM) hstack hdg
  obtain ⟨v, B, X', hpost, hsteps⟩ := hK m meth c ⟨T.setVm vm₁, locs, cells, slots⟩ { g with stack := rest } (.invokestatic index) mk argsL.toArray X₁ hg hsize hdg hW (X₁.named hnamed) (hpre vm₁ X₁.warmed)
  exact ⟨v, vm₁, B, X₁.warmed, X', hpost, fun target h => hstep₁ _ fun acts => by rw [doInvoke_state]; exact hsteps.trans h⟩
theorem vx_runSW {y : MethodName} {bytes cc : ByteArray} {maxL nL mc ms n index : Nat} {ret : Option FieldType} {hh : List (Nat × Nat × Nat × Nat)} {ws : List Cond} {rm : Room} {Pc : Array Value → State → Prop} {Qc : Array Value → State → Outcome → State → Prop} {free : Addr → Prop} {Ts : List Cond} {own : String} {As rest : List Value} {g : JFrame}
    (S : CallFix p m c cc nL s args Ts own) (hM : Met l y ws rm Pc Qc mc ms free) (cw : vx_CSW R s args own index y bytes maxL ret hh ws rm mc ms n) (hp : PreS s H Pc As)
    (hg : g.method = m) (hn : As.length = n) (hsize : g.locals.size = nL) (hstack : g.stack = As.reverse ++ rest) (hW : 2 * g.monitorRoom + (rest.map fun v => v.category).sum ≤ 8) (hdg : decode cc g.pc = .ok (.invokestatic index, 3)) (hf : cells + mc ≤ R.cells ∧ slots + ms ≤ R.slots) :
    va_Run p l e R s m args below meth c H locs cells slots mc ms g rest (Qc As.toArray) (free) := by
  obtain ⟨⟨hrc, hrs, hfr, hlo, hws, hcw⟩, hcode, hini, hy, hlen, hl, hstt⟩ := cw
  have hK : Back l R p e below s args y 3 8 (PreOf R mc ms Pc) (PostOf Qc mc ms free) := va_backW (hh := hh) (bytes := bytes) (maxL := maxL) (ret := ret) hM hp.1 hrc hrs hfr hlo hws hcw (fun a' U hW => word_at hW (Or.inl (by first | rfl | simp [Cond.onTables, Cond.keeps, Cond.steady])) hini)
  obtain ⟨hx, hb, hml, ho, -⟩ := S
  intro T hT X
  obtain ⟨v, vm₁, ⟨U', l2, c2, s2⟩, hW₁, X', ⟨g', mk, t, L, e1, e2, hq, h1, hL, h2, h3⟩, st⟩ := vx_callSW X hx (hh := hh) (bytes := bytes) (maxL := maxL) (ret := ret) ho hl hstt hini hcode hy hK hg (hsize.trans hml.symm) (argsL := As) (rest := rest) (fun sig h => hn.trans (hlen sig h)) hstack hW (by rw [hb]; exact hdg)
    (fun vm₁ hW₁ => ⟨hf.1, hf.2, hp.2 (T.setVm vm₁) hT hW₁⟩)
  dsimp only [Pt.U, Pt.locs, Pt.cells, Pt.slots] at X' e1 e2 h1 h2 h3 st
  subst h1; subst h2; subst h3
  exact ⟨v, (T.setVm vm₁).calling g' mk As.toArray, t, U', L, hT, X', hL, e1, e2, hq, st⟩
/-- not caught here, past rows that name other classes: it goes on to the caller -/
theorem vx_outP {p : Program} {l : Launch} {e : Env} {R : Room} {s : State} {m : MethodId} {args : Array Value} {below : List Frame} {meth : Method} {c : Code} {H : Heap} {locs : List Loc} {cells slots : Nat} {free : Addr → Prop} {ls : Array Slot} {rest : List Value} {Qc : Array Value → State → Outcome → State → Prop} {XC : String → State → State → Prop}
    {pc : Nat} {own E : String} {ce : Cell} {q : Addr} {mc ms : Nat} (hown : s.vm.findClass own = some m.cls) (hlocks : meth.locks = false)
    (hpass : ∀ z ∈ c.exceptionTable.toList, covers z pc = false ∨ (z.catchType ≠ 0 ∧ ∃ nm : String, (Cond.classLink own z.catchType nm).before args s = true ∧ va_Nc E nm s)) (hcell : H[q]? = some ce) (hv : ce.vm = .none) (hcl : s.vm.findClass E = some ce.cls)
    (hx : ∀ t : State, t.heap = H → s.vm.Alike t.vm → XC E s t) (hf : ∀ z ∈ locs, free z.base) (hc : cells ≤ mc) (hs : slots ≤ ms) :
    vx_W p l e R s m args below meth c H locs cells slots (vx_MQ below Qc XC args s mc ms free) (F0 m pc ls rest) q := by
  intro T hT X
  have hpl : e.platform.magicAccessors = ({} : Platform).magicAccessors := by rw [X.admits.platform]
  obtain ⟨vm', hW', X', st⟩ := X.outThrough hlocks q (g := F0 m pc ls rest) rfl rfl rfl (cell := ce) (by rw [hT]; exact hcell) (by rw [hv]; rfl)
    (by obtain ⟨k9, h9, -⟩ := Vm.findClass_spec hcl; exact ⟨k9, h9⟩) (fun z hz => by
      rcases hpass z hz with h | ⟨hz0, nm, hl1, hn1⟩
      · exact Or.inl h
      · obtain ⟨c6, hc6, hcl6⟩ := Cond.classLink_spec hown hl1 e.platform hpl
        obtain ⟨a8, b8, h1, h2, h3⟩ := hn1
        cases Option.some.inj (h1.symm.trans hcl)
        cases Option.some.inj (h2.symm.trans hc6)
        exact Or.inr ⟨hz0, _, hcl6, h3⟩)
  obtain ⟨g₀, hfr⟩ := X'.frames_eq
  have hcell9 : ((T.setVm vm').setFrames (.throwing q :: below)).heap[q]? = some ce := by
    show T.heap[q]? = some ce
    rw [hT]; exact hcell
  have hend : Ended ((T.setVm vm').setFrames (.throwing q :: below)) below (.threw q) := State.frames_setFrames _ (State.cur_lt_of_frames hfr)
  refine ⟨(T.setVm vm').setFrames (.throwing q :: below), ?_, .threw q, X'.here.running, hend, Or.inr ⟨q, rfl, E, ce, locs, hx _ hT (X'.ends _).1.alike, hcell9, hv, hcl, (X'.ends _).1, (X'.ends _).2.mono hc hs, hf⟩⟩
  rw [X.pushThrowing_eq]
  exact st
/-- a thing of a world lies in the heap -/
theorem vx_lt {D : va_G} {cl : List vw_C} {ws : va_W} {H1 : Heap} (h : va_P D cl ws H1) {k : Nat} {q : Nat × va_E} (hk : ws[k]? = some q) : q.1 < H1.size := (h k q hk).lt
end VXS
/-! ===== END ===== -/
/-! ===== BEGIN methods with a table of their own: called by a name, returning or throwing ===== -/
section VXH
/-! vx_backW, vx_callVX, vx_callSX, vx_callVW, vx_runVW, vx_runVX, vx_runSX, vx_ofWH follow the same proofs as their sisters above (Free/Laws.lean, Shelf42/LK1.lean); vx_outP calls Shelf42/NT130.lean (outThrough). -/
section
variable {l : Launch} {R : Room} {p : Program} {e : Env} {below : List Frame} {s : State} {sargs : Array Value} {y : MethodName} {len W9 : Nat}
theorem vx_backW {ws : List Cond} {rm : Room} {Pc : Array Value → State → Prop} {Qc : Array Value → State → Outcome → State → Prop} {XC : String → State → State → Prop} {mc ms : Nat} {free : Addr → Prop} {bytes : ByteArray} {maxL : Nat} {ret : Option FieldType} {hh : List (Nat × Nat × Nat × Nat)}
    (hM : vx_Met l y ws rm Pc Qc XC mc ms free) (hblind : FrameBlind Pc) (hrc : rm.cells = mc) (hrs : rm.slots = ms)
    (hframes : rm.frames + 1 ≤ R.frames) (hlocals : W9 + (maxL + 11) + rm.locals ≤ R.locals)
    (hws : ∀ w ∈ ws, ∀ a' U, s.WarmedH U.vm → w.before a' U = true) (hcode : Cond.codeWith y bytes maxL ret hh ∈ ws) (hinit : ∀ a' U, s.WarmedH U.vm → (Cond.initialized y.cls).before a' U = true) :
    vx_Back l R p e below s sargs y len W9 (PreOf R mc ms Pc) (PostOf Qc mc ms free) (vx_Post XC mc ms free) := by
  intro m meth c A g ig mk a X hg hsize hdg hW hn hp
  have h1 : (headSpec ws rm).pre.before a A.U = true := atoms_intro fun w hw => hws w hw _ _ X.warmed
  have h2 : (Cond.codeWith y bytes maxL ret hh).before a A.U = true := hws _ hcode _ _ X.warmed
  have h3 : (Cond.initialized y.cls).before a A.U = true := hinit _ _ X.warmed
  have h4 : A.cells + (headSpec ws rm).room.cells ≤ R.cells := by rw [show (headSpec ws rm).room.cells = mc from hrc]; exact hp.1
  have h5 : A.slots + (headSpec ws rm).room.slots ≤ R.slots := by rw [show (headSpec ws rm).room.slots = ms from hrs]; exact hp.2.1
  have hPc : Pc a (A.U.calling g mk a) := hblind _ _ _ _ hp.2.2
  obtain ⟨U, Ls, c0, s0⟩ := A
  dsimp only [Pt.U, Pt.locs, Pt.cells, Pt.slots] at h1 h2 h3 h4 h5 X hn hPc ⊢
  obtain ⟨m9, methY, cY, hn9, hmY, hcY, -, hlY, -⟩ := Cond.codeWith_spec h2
  cases Option.some.inj (hn9.symm.trans hn)
  obtain ⟨kY, hkY, -⟩ := className_of_methodNamed hn
  have hinitY : kY.init = .initialized := Cond.initialized_spec (findClass_of_methodNamed hn) hkY h3
  have h : At U g.method c below := by rw [hg]; exact X.here
  have hlocals9 : W9 + (maxL + 11) + (headSpec ws rm).room.locals ≤ R.locals := hlocals
  have happ : (headSpec ws rm).appliesLoose y e.platform (U.calling g mk a) = true :=
    Spec.appliesLoose_calling (g := g) h hdg hn hkY hinitY
      (X.room_calling (g := g) (R' := (headSpec ws rm).room) hsize hmY hcY hframes (by rw [hlY]; omega) h4 h5) h1
  obtain ⟨mid, hmid⟩ := h.above
  have hfr : (U.setTop g).frames = (.java g :: mid) ++ below := by rw [State.frames_setTop' g h.top, hmid]; rfl
  obtain ⟨o, s₂, hsteps, -, hend, hq⟩ := Steps.callFree hM p X.admits X.cas X.clock (acts := []) hfr happ hPc trivial
  have hq' : vx_Q Qc XC mc ms free a (U.calling g mk a) o s₂ := hq
  rw [State.frames_setTop' g h.top] at hend
  obtain ⟨g₀, hg0⟩ := Option.isSome_iff_exists.mp h.top
  obtain ⟨r, hr⟩ := State.topJava?_eq_some.mp hg0
  have hr' : (({ U with heap := s₂.heap, slotsUsed := s₂.slotsUsed } : State).setVm s₂.vm).frames = .java g₀ :: r := hr
  rcases hq' with ⟨hqc, L, hfe, hL⟩ | ⟨q, rfl, E, ce, L, hx, hce, hcv, hcl, hW₂, hsm, hL⟩
  · obtain ⟨⟨v, rfl⟩, hW₂, e2, q2, q3, q4, q5, q6⟩ := id hfe
    have e3 : s₂ = ({ (U.calling g mk a).setFrames s₂.frames with heap := s₂.heap, slotsUsed := s₂.slotsUsed } : State).setVm s₂.vm := by
      have : s₂ = ({ s₂ with vm := (U.calling g mk a).vm } : State).setVm s₂.vm := rfl
      rw [e2] at this
      exact this
    obtain ⟨c₂, i₂, len₂, hc₂, hd₂, hf₂⟩ := hend
    have hW' : U.WarmedH s₂.vm := hW₂
    have hcc : c₂ = c := by
      have h1 : s₂.code? g.method = U.code? g.method := by
        rw [State.code?_eq, State.code?_eq, hW'.alike.method?]
      exact Option.some.inj (hc₂.symm.trans (h1.trans h.code))
    subst hcc
    have hlen : len₂ = len := by rw [hdg] at hd₂; cases hd₂; rfl
    subst hlen
    have hs₂ : s₂ = (({ U with heap := s₂.heap, slotsUsed := s₂.slotsUsed } : State).setVm s₂.vm).setTop { g with pc := g.pc + len₂, stack := v.toList ++ g.stack } := by
      refine e3.trans ?_
      rw [hf₂, State.calling_eq h.top, State.setFrames_setFrames, State.setTop_of_frames _ hr', hr]
      rfl
    have hsame : U.sameButNew ({ U with heap := s₂.heap, slotsUsed := s₂.slotsUsed } : State) L mc ms := by
      refine ⟨?_, q2, q3, q4, q5, q6⟩
      obtain ⟨t, ht, -⟩ := State.frames_cons hr
      show ({ U with heap := s₂.heap, slotsUsed := s₂.slotsUsed } : State) = { U.setFrames U.frames with heap := s₂.heap, slotsUsed := s₂.slotsUsed }
      rw [State.setFrames_self ht]
    subst hg
    refine Or.inl ⟨v, ⟨(({ U with heap := s₂.heap, slotsUsed := s₂.slotsUsed } : State).setVm s₂.vm), Ls ++ L, c0 + mc, s0 + ms⟩,
      ⟨X.admits, X.cas, X.clock, X.frames, X.room, X.hears, X.method, X.code, (X.here.setHeapUsed s₂.heap s₂.slotsUsed).setVm hW'.alike, X.tail, State.WarmedH.trans X.warmed hW', X.limits, X.bytes, X.same.trans (hsame.setVm s.vm)⟩,
      ⟨g, mk, s₂, L, rfl, rfl, hqc, rfl, hL, rfl, rfl⟩, ?_⟩
    show Steps p.tables e below _ ((({ U with heap := s₂.heap, slotsUsed := s₂.slotsUsed } : State).setVm s₂.vm).setTop { g with pc := g.pc + len₂, stack := v.toList ++ g.stack })
    rw [← hs₂]
    exact hsteps
  · obtain ⟨e2, q2, q3, q4, q5, q6⟩ := id hsm
    have e3 : s₂ = ({ (U.calling g mk a).setFrames s₂.frames with heap := s₂.heap, slotsUsed := s₂.slotsUsed } : State).setVm s₂.vm := by
      have : s₂ = ({ s₂ with vm := (U.calling g mk a).vm } : State).setVm s₂.vm := rfl
      rw [e2] at this
      exact this
    have hf₂ : s₂.frames = .throwing q :: .java g :: U.frames.tail := hend
    have hW' : U.WarmedH s₂.vm := hW₂
    have hs₂ : s₂ = ((({ U with heap := s₂.heap, slotsUsed := s₂.slotsUsed } : State).setVm s₂.vm).setTop g).pushFrame (.throwing q) := by
      refine e3.trans ?_
      rw [hf₂, State.calling_eq h.top, State.setFrames_setFrames, State.pushFrame, State.frames_setTop _ hr', State.setTop_of_frames _ hr', State.setFrames_setFrames, hr]
      rfl
    have hsame : U.sameButNew ({ U with heap := s₂.heap, slotsUsed := s₂.slotsUsed } : State) L mc ms := by
      refine ⟨?_, q2, q3, q4, q5, q6⟩
      obtain ⟨t, ht, -⟩ := State.frames_cons hr
      show ({ U with heap := s₂.heap, slotsUsed := s₂.slotsUsed } : State) = { U.setFrames U.frames with heap := s₂.heap, slotsUsed := s₂.slotsUsed }
      rw [State.setFrames_self ht]
    subst hg
    refine Or.inr ⟨q, ⟨(({ U with heap := s₂.heap, slotsUsed := s₂.slotsUsed } : State).setVm s₂.vm), Ls ++ L, c0 + mc, s0 + ms⟩,
      ⟨X.admits, X.cas, X.clock, X.frames, X.room, X.hears, X.method, X.code, (X.here.setHeapUsed s₂.heap s₂.slotsUsed).setVm hW'.alike, X.tail, State.WarmedH.trans X.warmed hW', X.limits, X.bytes, X.same.trans (hsame.setVm s.vm)⟩,
      ⟨g, mk, s₂, L, E, ce, rfl, rfl, hx, hce, hcv, hcl, rfl, hL, rfl, rfl⟩, ?_⟩
    show Steps p.tables e below _ (((({ U with heap := s₂.heap, slotsUsed := s₂.slotsUsed } : State).setVm s₂.vm).setTop g).pushFrame (.throwing q))
    rw [← hs₂]
    exact hsteps
end
variable {p : Program} {l : Launch} {e : Env} {R : Room} {s : State} {m : MethodId} {args : Array Value} {below : List Frame} {meth : Method} {c : Code} {T : State} {H : Heap} {locs : List Loc} {cells slots : Nat}
theorem vx_callVX (X : Stand p l e R s m args below meth c T locs cells slots) (hexec : p.tables.exec = Jvm.exec) {own C : String} {index : Nat} {y : MethodName} {bytes : ByteArray} {maxL : Nat} {ret : Option FieldType} {hh : List (Nat × Nat × Nat × Nat)}
    (hown : s.vm.findClass own = some m.cls) (hlink : (Cond.methodLink own index y).before args s = true) (hinst : (Cond.instanceMethod y).before args s = true) (hsel : (Cond.selects C y y).before args s = true)
    (hcode : (Cond.codeWith y bytes maxL ret hh).before args s = true) (hy : y.cls ≠ "java/lang/invoke/MethodHandle" ∧ y.cls ≠ "java/lang/invoke/VarHandle")
    {W9 : Nat} {Pre : Pt → Array Value → Prop} {Post : Pt → Array Value → Option Value → Pt → Prop} {PostX : Pt → Array Value → Addr → Pt → Prop} (hK : vx_Back l R p e below s args y 3 W9 Pre Post PostX)
    {b : Addr} {cellB : Cell} (hcell : T.heap[b]? = some cellB) (hobj : cellB.vm.isStatics = false) (hcls : s.vm.findClass C = some cellB.cls)
    {g : JFrame} (hg : g.method = m) (hsize : g.locals.size = c.maxLocals) {argsL rest : List Value} (hlen : ∀ sig, parseMethodDescriptor y.desc = some sig → argsL.length = sig.parameters.length)
    (hstack : g.stack = argsL.reverse ++ .ref b :: rest) (hW : 2 * g.monitorRoom + (rest.map fun v => v.category).sum ≤ W9) (hdg : decode c.code g.pc = .ok (.invokevirtual index, 3))
    (hpre : ∀ vm₁, s.WarmedH vm₁ → Pre ⟨T.setVm vm₁, locs, cells, slots⟩ (Value.ref b :: argsL).toArray) :
    (∃ (v : Option Value) (vm₁ : Vm) (B : Pt), s.WarmedH vm₁ ∧ Stand p l e R s m args below meth c B.U B.locs B.cells B.slots ∧ Post ⟨T.setVm vm₁, locs, cells, slots⟩ (Value.ref b :: argsL).toArray v B ∧
      ∀ target, Steps p.tables e below (B.U.setTop { g with pc := g.pc + 3, stack := v.toList ++ rest }) target → Steps p.tables e below (T.setTop g) target) ∨
    (∃ (q : Addr) (vm₁ : Vm) (B : Pt), s.WarmedH vm₁ ∧ Stand p l e R s m args below meth c B.U B.locs B.cells B.slots ∧ PostX ⟨T.setVm vm₁, locs, cells, slots⟩ (Value.ref b :: argsL).toArray q B ∧
      Steps p.tables e below (T.setTop g) ((B.U.setTop { g with stack := rest }).pushFrame (.throwing q))) := by
  obtain ⟨mk, methM, hnamed, hmethM, hstM, habM⟩ := Cond.instanceMethod_spec hinst
  obtain ⟨m8, methM', cM, hn8, hmethM', -, -, -, -, -, -, hsigM⟩ := Cond.codeWith_spec hcode
  cases Option.some.inj (hn8.symm.trans hnamed)
  cases hmethM.symm.trans hmethM'
  obtain ⟨c2, r2, m2, q1, q2, q3, q4, kP, hkP, hkPi⟩ := Cond.selects_spec hsel
  cases hcls.symm.trans q1
  cases (State.methodFound?_of_named hnamed hy).symm.trans q2
  cases hnamed.symm.trans q3
  have hselP : selectMethod e.platform s.vm cellB.cls mk = .method mk := by rw [Launch.admits_selectMethod X.admits]; exact q4
  obtain ⟨vm₁, X₁, hstep₁⟩ := X.invokevirtual hexec hown hlink hnamed hmethM hstM hkP hkPi hy (a := b) (cell := cellB) hcell
    (fun z h => by rw [h] at hobj; cases hobj) hselP hmethM habM hkP hkPi (g := g) hg (argsL := argsL) (rest := rest) (hlen _ hsigM) hstack hdg
  rcases hK m meth c ⟨T.setVm vm₁, locs, cells, slots⟩ { g with stack := rest } (.invokevirtual index) mk (Value.ref b :: argsL).toArray X₁ hg hsize hdg hW (X₁.named hnamed) (hpre vm₁ X₁.warmed) with ⟨v, B, X', hpost, hsteps⟩ | ⟨q, B, X', hpost, hsteps⟩
  · exact Or.inl ⟨v, vm₁, B, X₁.warmed, X', hpost, fun target h => hstep₁ _ fun acts => by rw [doInvoke_state]; exact hsteps.trans h⟩
  · exact Or.inr ⟨q, vm₁, B, X₁.warmed, X', hpost, hstep₁ _ fun acts => by rw [doInvoke_state]; exact hsteps⟩
theorem vx_callSX (X : Stand p l e R s m args below meth c T locs cells slots) (hexec : p.tables.exec = Jvm.exec) {own : String} {index : Nat} {y : MethodName} {bytes : ByteArray} {maxL : Nat} {ret : Option FieldType} {hh : List (Nat × Nat × Nat × Nat)}
    (hown : s.vm.findClass own = some m.cls) (hlink : (Cond.methodLink own index y).before args s = true) (hstat : (Cond.static y).before args s = true) (hinit : (Cond.initialized y.cls).before args s = true)
    (hcode : (Cond.codeWith y bytes maxL ret hh).before args s = true) (hy : y.cls ≠ "java/lang/invoke/MethodHandle" ∧ y.cls ≠ "java/lang/invoke/VarHandle")
    {W9 : Nat} {Pre : Pt → Array Value → Prop} {Post : Pt → Array Value → Option Value → Pt → Prop} {PostX : Pt → Array Value → Addr → Pt → Prop} (hK : vx_Back l R p e below s args y 3 W9 Pre Post PostX)
    {g : JFrame} (hg : g.method = m) (hsize : g.locals.size = c.maxLocals) {argsL rest : List Value} (hlen : ∀ sig, parseMethodDescriptor y.desc = some sig → argsL.length = sig.parameters.length)
    (hstack : g.stack = argsL.reverse ++ rest) (hW : 2 * g.monitorRoom + (rest.map fun v => v.category).sum ≤ W9) (hdg : decode c.code g.pc = .ok (.invokestatic index, 3))
    (hpre : ∀ vm₁, s.WarmedH vm₁ → Pre ⟨T.setVm vm₁, locs, cells, slots⟩ argsL.toArray) :
    (∃ (v : Option Value) (vm₁ : Vm) (B : Pt), s.WarmedH vm₁ ∧ Stand p l e R s m args below meth c B.U B.locs B.cells B.slots ∧ Post ⟨T.setVm vm₁, locs, cells, slots⟩ argsL.toArray v B ∧
      ∀ target, Steps p.tables e below (B.U.setTop { g with pc := g.pc + 3, stack := v.toList ++ rest }) target → Steps p.tables e below (T.setTop g) target) ∨
    (∃ (q : Addr) (vm₁ : Vm) (B : Pt), s.WarmedH vm₁ ∧ Stand p l e R s m args below meth c B.U B.locs B.cells B.slots ∧ PostX ⟨T.setVm vm₁, locs, cells, slots⟩ argsL.toArray q B ∧
      Steps p.tables e below (T.setTop g) ((B.U.setTop { g with stack := rest }).pushFrame (.throwing q))) := by
  obtain ⟨mk, methM, cM, hnamed, hmethM, -, -, -, -, -, -, hsigM⟩ := Cond.codeWith_spec hcode
  have hstatic : methM.isStatic = true := Cond.static_spec hnamed hmethM hstat
  obtain ⟨kP, hkP, -⟩ := className_of_methodNamed hnamed
  have hinitP : kP.init = .initialized := Cond.initialized_spec (findClass_of_methodNamed hnamed) hkP hinit
  obtain ⟨vm₁, X₁, hstep₁⟩ := X.invokestatic hexec hown hlink hnamed hmethM hstatic hkP hinitP hy (g := g) hg (argsL := argsL) (rest := rest) (hlen _ hsigM) hstack hdg
  rcases hK m meth c ⟨T.setVm vm₁, locs, cells, slots⟩ { g with stack := rest } (.invokestatic index) mk argsL.toArray X₁ hg hsize hdg hW (X₁.named hnamed) (hpre vm₁ X₁.warmed) with ⟨v, B, X', hpost, hsteps⟩ | ⟨q, B, X', hpost, hsteps⟩
  · exact Or.inl ⟨v, vm₁, B, X₁.warmed, X', hpost, fun target h => hstep₁ _ fun acts => by rw [doInvoke_state]; exact hsteps.trans h⟩
  · exact Or.inr ⟨q, vm₁, B, X₁.warmed, X', hpost, hstep₁ _ fun acts => by rw [doInvoke_state]; exact hsteps⟩
theorem vx_callVW (X : Stand p l e R s m args below meth c T locs cells slots) (hexec : p.tables.exec = Jvm.exec) {own C : String} {index : Nat} {y : MethodName} {bytes : ByteArray} {maxL : Nat} {ret : Option FieldType} {hh : List (Nat × Nat × Nat × Nat)}
    (hown : s.vm.findClass own = some m.cls) (hlink : (Cond.methodLink own index y).before args s = true) (hinst : (Cond.instanceMethod y).before args s = true) (hsel : (Cond.selects C y y).before args s = true)
    (hcode : (Cond.codeWith y bytes maxL ret hh).before args s = true) (hy : y.cls ≠ "java/lang/invoke/MethodHandle" ∧ y.cls ≠ "java/lang/invoke/VarHandle")
    {W9 : Nat} {Pre : Pt → Array Value → Prop} {Post : Pt → Array Value → Option Value → Pt → Prop} (hK : Back l R p e below s args y 3 W9 Pre Post)
    {b : Addr} {cellB : Cell} (hcell : T.heap[b]? = some cellB) (hobj : cellB.vm.isStatics = false) (hcls : s.vm.findClass C = some cellB.cls)
    {g : JFrame} (hg : g.method = m) (hsize : g.locals.size = c.maxLocals) {argsL rest : List Value} (hlen : ∀ sig, parseMethodDescriptor y.desc = some sig → argsL.length = sig.parameters.length)
    (hstack : g.stack = argsL.reverse ++ .ref b :: rest) (hW : 2 * g.monitorRoom + (rest.map fun v => v.category).sum ≤ W9) (hdg : decode c.code g.pc = .ok (.invokevirtual index, 3))
    (hpre : ∀ vm₁, s.WarmedH vm₁ → Pre ⟨T.setVm vm₁, locs, cells, slots⟩ (Value.ref b :: argsL).toArray) :
    ∃ (v : Option Value) (vm₁ : Vm) (B : Pt), s.WarmedH vm₁ ∧ Stand p l e R s m args below meth c B.U B.locs B.cells B.slots ∧ Post ⟨T.setVm vm₁, locs, cells, slots⟩ (Value.ref b :: argsL).toArray v B ∧
      ∀ target, Steps p.tables e below (B.U.setTop { g with pc := g.pc + 3, stack := v.toList ++ rest }) target → Steps p.tables e below (T.setTop g) target := by
  obtain ⟨mk, methM, hnamed, hmethM, hstM, habM⟩ := Cond.instanceMethod_spec hinst
  obtain ⟨m8, methM', cM, hn8, hmethM', -, -, -, -, -, -, hsigM⟩ := Cond.codeWith_spec hcode
  cases Option.some.inj (hn8.symm.trans hnamed)
  cases hmethM.symm.trans hmethM'
  obtain ⟨c2, r2, m2, q1, q2, q3, q4, kP, hkP, hkPi⟩ := Cond.selects_spec hsel
  cases hcls.symm.trans q1
  cases (State.methodFound?_of_named hnamed hy).symm.trans q2
  cases hnamed.symm.trans q3
  have hselP : selectMethod e.platform s.vm cellB.cls mk = .method mk := by rw [Launch.admits_selectMethod X.admits]; exact q4
  obtain ⟨vm₁, X₁, hstep₁⟩ := X.invokevirtual hexec hown hlink hnamed hmethM hstM hkP hkPi hy (a := b) (cell := cellB) hcell
    (fun z h => by rw [h] at hobj; cases hobj) hselP hmethM habM hkP hkPi (g := g) hg (argsL := argsL) (rest := rest) (hlen _ hsigM) hstack hdg
  obtain ⟨v, B, X', hpost, hsteps⟩ := hK m meth c ⟨T.setVm vm₁, locs, cells, slots⟩ { g with stack := rest } (.invokevirtual index) mk (Value.ref b :: argsL).toArray X₁ hg hsize hdg hW (X₁.named hnamed) (hpre vm₁ X₁.warmed)
  exact ⟨v, vm₁, B, X₁.warmed, X', hpost, fun target h => hstep₁ _ fun acts => by rw [doInvoke_state]; exact hsteps.trans h⟩
abbrev vx_CVW (R : Room) (s : State) (args : Array Value) (own C : String) (index : Nat) (y : MethodName) (bytes : ByteArray) (maxL : Nat) (ret : Option FieldType) (hh : List (Nat × Nat × Nat × Nat)) (ws : List Cond) (rm : Room) (mc ms n : Nat) : Prop :=
  (rm.cells = mc ∧ rm.slots = ms ∧ rm.frames + 1 ≤ R.frames ∧ 8 + (maxL + 11) + rm.locals ≤ R.locals ∧ (∀ w ∈ ws, ∀ (a' : Array Value) (U : State), s.WarmedH U.vm → w.before a' U = true) ∧ Cond.codeWith y bytes maxL ret hh ∈ ws) ∧
  (Cond.codeWith y bytes maxL ret hh).before args s = true ∧ (Cond.initialized y.cls).before args s = true ∧ (y.cls ≠ "java/lang/invoke/MethodHandle" ∧ y.cls ≠ "java/lang/invoke/VarHandle") ∧
  (∀ sig, parseMethodDescriptor y.desc = some sig → n = sig.parameters.length) ∧ (Cond.methodLink own index y).before args s = true ∧ (Cond.instanceMethod y).before args s = true ∧ (Cond.selects C y y).before args s = true
theorem vx_cwVW {own C : String} {index maxL mc ms : Nat} {y : MethodName} {bytes : ByteArray} {ret : Option FieldType} {hh : List (Nat × Nat × Nat × Nat)} {Ts ws ws' : List Cond} {rm : Room} (n : Nat) (ht : ∀ w ∈ Ts, w.before args s = true) (hT : GoodIn Ts (wsV own index C y ws)) (hw : ws = Cond.codeWith y bytes maxL ret hh :: ws') (hrc : rm.cells = mc) (hrs : rm.slots = ms)
    (hd : y.cls = C ∧ y.cls ≠ "java/lang/invoke/MethodHandle" ∧ y.cls ≠ "java/lang/invoke/VarHandle" ∧ (parseMethodDescriptor y.desc).map (fun d => d.parameters.length) = some n) (hR : rm.frames + 1 ≤ R.frames ∧ 8 + (maxL + 11) + rm.locals ≤ R.locals) :
    vx_CVW R s args own C index y bytes maxL ret hh ws rm mc ms n := by
  obtain ⟨hC, hd⟩ := hd
  subst hC
  have ok : ∀ w ∈ wsV own index y.cls y ws, w.before args s = true := fun w h => ht w (hT w h).1
  have hG : GoodIn Ts ws := fun w h => hT w (by unfold wsV; exact List.mem_append_right _ h)
  have hc : Cond.codeWith y bytes maxL ret hh ∈ ws := by rw [hw]; exact List.mem_cons_self
  refine ⟨⟨hrc, hrs, hR.1, hR.2, pay_in ht hG, hc⟩, ht _ (hG _ hc).1, ok _ (by simp [wsV]), ⟨hd.1, hd.2.1⟩, fun sig h => ?_, ok _ (by simp [wsV]), ok _ (by simp [wsV]), ok _ (by simp [wsV])⟩
  have h2 := hd.2.2
  rw [h] at h2
  exact (Option.some.inj h2).symm
theorem vx_runVW {y : MethodName} {bytes cc : ByteArray} {maxL nL mc ms n index : Nat} {ret : Option FieldType} {hh : List (Nat × Nat × Nat × Nat)} {ws : List Cond} {rm : Room} {Pc : Array Value → State → Prop} {Qc : Array Value → State → Outcome → State → Prop} {free : Addr → Prop} {Ts : List Cond} {own C : String} {b : Addr} {As rest : List Value} {g : JFrame}
    (S : CallFix p m c cc nL s args Ts own) (hM : Met l y ws rm Pc Qc mc ms free) (cw : vx_CVW R s args own C index y bytes maxL ret hh ws rm mc ms n) (hp : PreV s H C b Pc As)
    (hg : g.method = m) (hn : As.length = n) (hsize : g.locals.size = nL) (hstack : g.stack = As.reverse ++ .ref b :: rest) (hW : 2 * g.monitorRoom + (rest.map fun v => v.category).sum ≤ 8) (hdg : decode cc g.pc = .ok (.invokevirtual index, 3)) (hf : cells + mc ≤ R.cells ∧ slots + ms ≤ R.slots) :
    va_Run p l e R s m args below meth c H locs cells slots mc ms g rest (Qc (Value.ref b :: As).toArray) free := by
  obtain ⟨⟨hrc, hrs, hfr, hlo, hws, hcw⟩, hcode, hini, hy, hlen, hl, hin, hse⟩ := cw
  have hK : Back l R p e below s args y 3 8 (PreOf R mc ms Pc) (PostOf Qc mc ms free) := va_backW (hh := hh) (bytes := bytes) (maxL := maxL) (ret := ret) hM hp.1 hrc hrs hfr hlo hws hcw (fun a' U hW => word_at hW (Or.inl (by first | rfl | simp [Cond.onTables, Cond.keeps, Cond.steady])) hini)
  obtain ⟨hx, hb, hml, ho, -⟩ := S
  obtain ⟨-, ⟨cellB, hcB, hoB, hclB⟩, hPc⟩ := hp
  intro T hT X
  obtain ⟨v, vm₁, ⟨U', l2, c2, s2⟩, hW₁, X', ⟨g', mk, t, L, e1, e2, hq, h1, hL, h2, h3⟩, st⟩ := vx_callVW X hx (C := C) (hh := hh) (bytes := bytes) (maxL := maxL) (ret := ret) ho hl hin hse hcode hy hK (by rw [hT]; exact hcB) hoB hclB hg (hsize.trans hml.symm) (argsL := As) (rest := rest) (fun sig h => hn.trans (hlen sig h)) hstack hW (by rw [hb]; exact hdg)
    (fun vm₁ hW₁ => ⟨hf.1, hf.2, hPc (T.setVm vm₁) hT hW₁⟩)
  dsimp only [Pt.U, Pt.locs, Pt.cells, Pt.slots] at X' e1 e2 h1 h2 h3 st
  subst h1; subst h2; subst h3
  exact ⟨v, (T.setVm vm₁).calling g' mk (Value.ref b :: As).toArray, t, U', L, hT, X', hL, e1, e2, hq, st⟩
section
variable {y : MethodName} {bytes cc : ByteArray} {maxL nL mc ms n index : Nat} {ret : Option FieldType} {ws : List Cond} {rm : Room} {Pc : Array Value → State → Prop} {Qc : Array Value → State → Outcome → State → Prop} {XC : String → State → State → Prop} {free : Addr → Prop} {Ts : List Cond} {own C : String} {b : Addr} {As rest : List Value} {g : JFrame}
theorem vx_runVX {hh : List (Nat × Nat × Nat × Nat)} (S : CallFix p m c cc nL s args Ts own) (hM : vx_Met l y ws rm Pc Qc XC mc ms free) (cw : vx_CVW R s args own C index y bytes maxL ret hh ws rm mc ms n) (hp : PreV s H C b Pc As)
    (hg : g.method = m) (hn : As.length = n) (hsize : g.locals.size = nL) (hstack : g.stack = As.reverse ++ .ref b :: rest) (hW : 2 * g.monitorRoom + (rest.map fun v => v.category).sum ≤ 8) (hdg : decode cc g.pc = .ok (.invokevirtual index, 3)) (hf : cells + mc ≤ R.cells ∧ slots + ms ≤ R.slots) :
    vx_Run p l e R s m args below meth c H locs cells slots mc ms g rest (Qc (Value.ref b :: As).toArray) XC free := by
  obtain ⟨⟨hrc, hrs, hfr, hlo, hws, hcw⟩, hcode, hini, hy, hlen, hl, hin, hse⟩ := cw
  have hK : vx_Back l R p e below s args y 3 8 (PreOf R mc ms Pc) (PostOf Qc mc ms free) (vx_Post XC mc ms free) := vx_backW (hh := hh) (bytes := bytes) (maxL := maxL) (ret := ret) hM hp.1 hrc hrs hfr hlo hws hcw (fun a' U hW => word_at hW (Or.inl (by first | rfl | simp [Cond.onTables, Cond.keeps, Cond.steady])) hini)
  obtain ⟨hx, hb, hml, ho, -⟩ := S
  obtain ⟨-, ⟨cellB, hcB, hoB, hclB⟩, hPc⟩ := hp
  intro T hT X
  rcases vx_callVX X hx (C := C) (hh := hh) (bytes := bytes) (maxL := maxL) (ret := ret) ho hl hin hse hcode hy hK (by rw [hT]; exact hcB) hoB hclB hg (hsize.trans hml.symm) (argsL := As) (rest := rest) (fun sig h => hn.trans (hlen sig h)) hstack hW (by rw [hb]; exact hdg)
    (fun vm₁ hW₁ => ⟨hf.1, hf.2, hPc (T.setVm vm₁) hT hW₁⟩) with ⟨v, vm₁, ⟨U', l2, c2, s2⟩, hW₁, X', ⟨g', mk, t, L, e1, e2, hq, h1, hL, h2, h3⟩, st⟩ | ⟨q, vm₁, ⟨U', l2, c2, s2⟩, hW₁, X', ⟨g', mk, t, L, E, ce, e1, e2, hq, hce, hcv, hcl, h1, hL, h2, h3⟩, st⟩
  · dsimp only [Pt.U, Pt.locs, Pt.cells, Pt.slots] at X' e1 e2 h1 h2 h3 st
    subst h1; subst h2; subst h3
    exact Or.inl ⟨v, (T.setVm vm₁).calling g' mk (Value.ref b :: As).toArray, t, U', L, hT, X', hL, e1, e2, hq, st⟩
  · dsimp only [Pt.U, Pt.locs, Pt.cells, Pt.slots] at X' e1 e2 h1 h2 h3 st hcl
    subst h1; subst h2; subst h3
    exact Or.inr ⟨q, (T.setVm vm₁).calling g' mk (Value.ref b :: As).toArray, t, U', L, E, ce, hT, X', hL, e1, e2, hq, hce, hcv, vx_cls hW₁ hcl, st⟩
theorem vx_runSX {hh : List (Nat × Nat × Nat × Nat)} (S : CallFix p m c cc nL s args Ts own) (hM : vx_Met l y ws rm Pc Qc XC mc ms free) (cw : vx_CSW R s args own index y bytes maxL ret hh ws rm mc ms n) (hp : PreS s H Pc As)
    (hg : g.method = m) (hn : As.length = n) (hsize : g.locals.size = nL) (hstack : g.stack = As.reverse ++ rest) (hW : 2 * g.monitorRoom + (rest.map fun v => v.category).sum ≤ 8) (hdg : decode cc g.pc = .ok (.invokestatic index, 3)) (hf : cells + mc ≤ R.cells ∧ slots + ms ≤ R.slots) :
    vx_Run p l e R s m args below meth c H locs cells slots mc ms g rest (Qc As.toArray) XC free := by
  obtain ⟨⟨hrc, hrs, hfr, hlo, hws, hcw⟩, hcode, hini, hy, hlen, hl, hstt⟩ := cw
  have hK : vx_Back l R p e below s args y 3 8 (PreOf R mc ms Pc) (PostOf Qc mc ms free) (vx_Post XC mc ms free) := vx_backW (hh := hh) (bytes := bytes) (maxL := maxL) (ret := ret) hM hp.1 hrc hrs hfr hlo hws hcw (fun a' U hW => word_at hW (Or.inl (by first | rfl | simp [Cond.onTables, Cond.keeps, Cond.steady])) hini)
  obtain ⟨hx, hb, hml, ho, -⟩ := S
  intro T hT X
  rcases vx_callSX X hx (hh := hh) (bytes := bytes) (maxL := maxL) (ret := ret) ho hl hstt hini hcode hy hK hg (hsize.trans hml.symm) (argsL := As) (rest := rest) (fun sig h => hn.trans (hlen sig h)) hstack hW (by rw [hb]; exact hdg)
    (fun vm₁ hW₁ => ⟨hf.1, hf.2, hp.2 (T.setVm vm₁) hT hW₁⟩) with ⟨v, vm₁, ⟨U', l2, c2, s2⟩, hW₁, X', ⟨g', mk, t, L, e1, e2, hq, h1, hL, h2, h3⟩, st⟩ | ⟨q, vm₁, ⟨U', l2, c2, s2⟩, hW₁, X', ⟨g', mk, t, L, E, ce, e1, e2, hq, hce, hcv, hcl, h1, hL, h2, h3⟩, st⟩
  · dsimp only [Pt.U, Pt.locs, Pt.cells, Pt.slots] at X' e1 e2 h1 h2 h3 st
    subst h1; subst h2; subst h3
    exact Or.inl ⟨v, (T.setVm vm₁).calling g' mk As.toArray, t, U', L, hT, X', hL, e1, e2, hq, st⟩
  · dsimp only [Pt.U, Pt.locs, Pt.cells, Pt.slots] at X' e1 e2 h1 h2 h3 st hcl
    subst h1; subst h2; subst h3
    exact Or.inr ⟨q, (T.setVm vm₁).calling g' mk As.toArray, t, U', L, E, ce, hT, X', hL, e1, e2, hq, hce, hcv, vx_cls hW₁ hcl, st⟩
end
end VXH
theorem vx_ofWH {l : Launch} {y : MethodName} {ws ws' : List Cond} {rm : Room} {Pc : Array Value → State → Prop} {Qc : Array Value → State → Outcome → State → Prop} {XC : String → State → State → Prop} {mc ms : Nat} {free : Addr → Prop} {cc : ByteArray} {maxL : Nat} {ret : Option FieldType} {hh : List (Nat × Nat × Nat × Nat)}
    (hy : plainName y.cls = true) (hw : ws = Cond.codeWith y cc maxL ret hh :: ws')
    (body : ∀ p e s m args below meth c s₁, BodyLoose p l y (headSpec ws rm) cc maxL ret e s m args below meth c s₁ → c.maxLocals = maxL → Pc args s →
      W p l e (headSpec ws rm).room s m args below meth c s.heap [] 0 0 (vx_MQ below Qc XC args s mc ms free) (entryFrame m args maxL)) : vx_Met l y ws rm Pc Qc XC mc ms free := by
  refine MetFree.of_bodyS (code := cc) (maxLocals := maxL) (ret := ret) hy ?_ ?_
  · intro args s m h hn
    obtain ⟨m9, meth, c, hn9, h1, h2, h3, h4, -, h5, h6, -⟩ := Cond.codeWith_spec (atoms_spec (ws := ws) h _ (by rw [hw]; exact List.mem_cons_self))
    cases hn.symm.trans hn9
    exact ⟨meth, c, h1, h2, h3, h4, h5, h6⟩
  · intro p e s m args below meth c s₁ B hml hP _
    have hh0 : s₁.heap = s.heap := by rw [B.state]; rfl
    obtain ⟨t, a1, o, b1, b2, b3⟩ := body p e s m args below meth c s₁ B hml hP s₁ hh0 (Stand.of_body B)
    exact ⟨t, o, a1, b1, b2, b3⟩
/-! ===== END ===== -/
end
section
/-! ===== BEGIN printed: names, fields, word lists, decode rows ===== -/
def RX0 : String := "RoyalUrTable$Dice"
def TX0 : u_T := fun k => match k with
  | _ => ("", "", "", false)
def tyX0 : Nat → FieldType := fun k => match k with
  | _ => .int
abbrev wsX00 : List Cond := u_ws RX0 TX0 0
theorem nmX0 : ∀ a, a < 0 → ∀ b, b < 0 → a ≠ b → (TX0 a).2.1 ≠ (TX0 b).2.1 := by decide +kernel
theorem tyX0_ok : ∀ k, k < 0 → parseFieldDescriptor (TX0 k).2.2.1 = some (tyX0 k) := by decide +kernel
abbrev cX0_timesIn16 : ByteArray := prog_2_method_2_code
def yX0_timesIn16 : MethodName := ⟨RX0, "timesIn16", "(I)I"⟩
def RX1 : String := "RoyalUrTable$Endings"
def TX1 : u_T := fun k => match k with
  | 0 => ("RoyalUrTable$Endings", "worths", "[I", true)
  | _ => ("RoyalUrTable$Endings", "roundsHeld", "I", false)
def tyX1 : Nat → FieldType := fun k => match k with
  | 0 => .array .int
  | _ => .int
abbrev wsX10 : List Cond := u_ws RX1 TX1 2
theorem nmX1 : ∀ a, a < 2 → ∀ b, b < 2 → a ≠ b → (TX1 a).2.1 ≠ (TX1 b).2.1 := by decide +kernel
theorem tyX1_ok : ∀ k, k < 2 → parseFieldDescriptor (TX1 k).2.2.1 = some (tyX1 k) := by decide +kernel
abbrev cX1_init : ByteArray := prog_3_method_1_code
def yX1_init : MethodName := ⟨RX1, "<init>", "()V"⟩
abbrev cX1_fillUpTo : ByteArray := prog_3_method_2_code
def yX1_fillUpTo : MethodName := ⟨RX1, "fillUpTo", "(I)V"⟩
abbrev cX1_held : ByteArray := prog_3_method_3_code
def yX1_held : MethodName := ⟨RX1, "held", "(III)I"⟩
abbrev cX1_fillRow : ByteArray := prog_3_method_5_code
def yX1_fillRow : MethodName := ⟨RX1, "fillRow", "(I)V"⟩
abbrev cX1_worthToThrow : ByteArray := prog_3_method_6_code
def yX1_worthToThrow : MethodName := ⟨RX1, "worthToThrow", "(IIII)I"⟩
abbrev cX1_worthBehindThrow : ByteArray := prog_3_method_7_code
def yX1_worthBehindThrow : MethodName := ⟨RX1, "worthBehindThrow", "(IIIII)I"⟩
def RX2 : String := "RoyalUrTable$Layout"
def TX2 : u_T := fun k => match k with
  | _ => ("", "", "", false)
def tyX2 : Nat → FieldType := fun k => match k with
  | _ => .int
abbrev wsX20 : List Cond := u_ws RX2 TX2 0
theorem nmX2 : ∀ a, a < 0 → ∀ b, b < 0 → a ≠ b → (TX2 a).2.1 ≠ (TX2 b).2.1 := by decide +kernel
theorem tyX2_ok : ∀ k, k < 0 → parseFieldDescriptor (TX2 k).2.2.1 = some (tyX2 k) := by decide +kernel
abbrev cX2_allAtStart : ByteArray := prog_4_method_2_code
def yX2_allAtStart : MethodName := ⟨RX2, "allAtStart", "(I)J"⟩
abbrev cX2_countAt : ByteArray := prog_4_method_3_code
def yX2_countAt : MethodName := ⟨RX2, "countAt", "(JI)I"⟩
abbrev cX2_shifted : ByteArray := prog_4_method_4_code
def yX2_shifted : MethodName := ⟨RX2, "shifted", "(JII)J"⟩
abbrev cX2_isAllHome : ByteArray := prog_4_method_5_code
def yX2_isAllHome : MethodName := ⟨RX2, "isAllHome", "(J)Z"⟩
abbrev cX2_sumOfPlaces : ByteArray := prog_4_method_6_code
def yX2_sumOfPlaces : MethodName := ⟨RX2, "sumOfPlaces", "(J)I"⟩
abbrev cX2_firstPlace : ByteArray := prog_4_method_7_code
def yX2_firstPlace : MethodName := ⟨RX2, "firstPlace", "(J)I"⟩
abbrev cX2_canMove : ByteArray := prog_4_method_8_code
def yX2_canMove : MethodName := ⟨RX2, "canMove", "(JJII)Z"⟩
abbrev cX2_canBeTaken : ByteArray := prog_4_method_9_code
def yX2_canBeTaken : MethodName := ⟨RX2, "canBeTaken", "(JI)Z"⟩
def RX3 : String := "RoyalUrTable$Side"
def TX3 : u_T := fun k => match k with
  | 0 => ("RoyalUrTable$Side", "layout", "J", false)
  | _ => ("RoyalUrTable$Side", "lost", "I", false)
def tyX3 : Nat → FieldType := fun k => match k with
  | 0 => .long
  | _ => .int
abbrev wsX30 : List Cond := u_ws RX3 TX3 2
theorem nmX3 : ∀ a, a < 2 → ∀ b, b < 2 → a ≠ b → (TX3 a).2.1 ≠ (TX3 b).2.1 := by decide +kernel
theorem tyX3_ok : ∀ k, k < 2 → parseFieldDescriptor (TX3 k).2.2.1 = some (tyX3 k) := by decide +kernel
abbrev cX3_init : ByteArray := prog_5_method_1_code
def yX3_init : MethodName := ⟨RX3, "<init>", "()V"⟩
def RX4 : String := "RoyalUrTable$Way"
def TX4 : u_T := fun k => match k with
  | _ => ("", "", "", false)
def tyX4 : Nat → FieldType := fun k => match k with
  | _ => .int
abbrev wsX40 : List Cond := u_ws RX4 TX4 0
theorem nmX4 : ∀ a, a < 0 → ∀ b, b < 0 → a ≠ b → (TX4 a).2.1 ≠ (TX4 b).2.1 := by decide +kernel
theorem tyX4_ok : ∀ k, k < 0 → parseFieldDescriptor (TX4 k).2.2.1 = some (tyX4 k) := by decide +kernel
abbrev cX4_isRosette : ByteArray := prog_6_method_2_code
def yX4_isRosette : MethodName := ⟨RX4, "isRosette", "(I)Z"⟩
abbrev cX4_isShared : ByteArray := prog_6_method_3_code
def yX4_isShared : MethodName := ⟨RX4, "isShared", "(I)Z"⟩
abbrev cX4_canEnter : ByteArray := prog_6_method_4_code
def yX4_canEnter : MethodName := ⟨RX4, "canEnter", "(IZZ)Z"⟩
def RX5 : String := "RoyalUrTable"
def TX5 : u_T := fun k => match k with
  | 0 => ("RoyalUrTable", "side0", "LRoyalUrTable$Side;", true)
  | 1 => ("RoyalUrTable", "side1", "LRoyalUrTable$Side;", true)
  | 2 => ("RoyalUrTable", "endings", "LRoyalUrTable$Endings;", true)
  | 3 => ("RoyalUrTable", "worthsBehind", "[I", true)
  | 4 => ("RoyalUrTable", "piecesOfEach", "I", false)
  | 5 => ("RoyalUrTable", "turn", "I", false)
  | 6 => ("RoyalUrTable", "marksTold", "I", false)
  | 7 => ("RoyalUrTable", "winner", "I", false)
  | _ => ("RoyalUrTable", "throwsTold", "I", false)
def tyX5 : Nat → FieldType := fun k => match k with
  | 0 => .object "RoyalUrTable$Side"
  | 1 => .object "RoyalUrTable$Side"
  | 2 => .object "RoyalUrTable$Endings"
  | 3 => .array .int
  | 4 => .int
  | 5 => .int
  | 6 => .int
  | 7 => .int
  | _ => .int
abbrev wsX50 : List Cond := u_ws RX5 TX5 9
theorem nmX5 : ∀ a, a < 9 → ∀ b, b < 9 → a ≠ b → (TX5 a).2.1 ≠ (TX5 b).2.1 := by decide +kernel
theorem tyX5_ok : ∀ k, k < 9 → parseFieldDescriptor (TX5 k).2.2.1 = some (tyX5 k) := by decide +kernel
abbrev cX5_init : ByteArray := prog_1_method_1_code
def yX5_init : MethodName := ⟨RX5, "<init>", "()V"⟩
abbrev cX5_begin : ByteArray := prog_1_method_2_code
def yX5_begin : MethodName := ⟨RX5, "begin", "(I)V"⟩
abbrev cX5_tell : ByteArray := prog_1_method_3_code
def yX5_tell : MethodName := ⟨RX5, "tell", "(I)I"⟩
abbrev cX5_move : ByteArray := prog_1_method_4_code
def yX5_move : MethodName := ⟨RX5, "move", "(I)I"⟩
abbrev cX5_turn : ByteArray := prog_1_method_5_code
def yX5_turn : MethodName := ⟨RX5, "turn", "()I"⟩
abbrev cX5_marks : ByteArray := prog_1_method_6_code
def yX5_marks : MethodName := ⟨RX5, "marks", "()I"⟩
abbrev cX5_winner : ByteArray := prog_1_method_7_code
def yX5_winner : MethodName := ⟨RX5, "winner", "()I"⟩
abbrev cX5_at : ByteArray := prog_1_method_8_code
def yX5_at : MethodName := ⟨RX5, "at", "(II)I"⟩
abbrev cX5_progress : ByteArray := prog_1_method_9_code
def yX5_progress : MethodName := ⟨RX5, "progress", "(I)I"⟩
abbrev cX5_captured : ByteArray := prog_1_method_10_code
def yX5_captured : MethodName := ⟨RX5, "captured", "(I)I"⟩
abbrev cX5_throwsTold : ByteArray := prog_1_method_11_code
def yX5_throwsTold : MethodName := ⟨RX5, "throwsTold", "()I"⟩
abbrev cX5_moves : ByteArray := prog_1_method_12_code
def yX5_moves : MethodName := ⟨RX5, "moves", "()I"⟩
abbrev cX5_moveAt : ByteArray := prog_1_method_13_code
def yX5_moveAt : MethodName := ⟨RX5, "moveAt", "(I)I"⟩
abbrev cX5_captures : ByteArray := prog_1_method_14_code
def yX5_captures : MethodName := ⟨RX5, "captures", "(I)Z"⟩
abbrev cX5_worth : ByteArray := prog_1_method_15_code
def yX5_worth : MethodName := ⟨RX5, "worth", "(I)I"⟩
abbrev cX5_chance : ByteArray := prog_1_method_16_code
def yX5_chance : MethodName := ⟨RX5, "chance", "(I)D"⟩
abbrev cX5_ranked : ByteArray := prog_1_method_17_code
def yX5_ranked : MethodName := ⟨RX5, "ranked", "(II)I"⟩
abbrev cX5_ending : ByteArray := prog_1_method_18_code
def yX5_ending : MethodName := ⟨RX5, "ending", "(III)I"⟩
abbrev cX5_refuseOutside : ByteArray := prog_1_method_20_code
def yX5_refuseOutside : MethodName := ⟨RX5, "refuseOutside", "(III)V"⟩
abbrev cX5_refuseEnding : ByteArray := prog_1_method_21_code
def yX5_refuseEnding : MethodName := ⟨RX5, "refuseEnding", "(II)V"⟩
abbrev cX5_setUp : ByteArray := prog_1_method_22_code
def yX5_setUp : MethodName := ⟨RX5, "setUp", "(I)V"⟩
abbrev cX5_sideOf : ByteArray := prog_1_method_23_code
def yX5_sideOf : MethodName := ⟨RX5, "sideOf", "(I)LRoyalUrTable$Side;"⟩
abbrev cX5_canMoveFrom : ByteArray := prog_1_method_24_code
def yX5_canMoveFrom : MethodName := ⟨RX5, "canMoveFrom", "(I)Z"⟩
abbrev cX5_countMoves : ByteArray := prog_1_method_25_code
def yX5_countMoves : MethodName := ⟨RX5, "countMoves", "(I)I"⟩
abbrev cX5_leadOfTurn : ByteArray := prog_1_method_26_code
def yX5_leadOfTurn : MethodName := ⟨RX5, "leadOfTurn", "()I"⟩
abbrev cX5_worthForTurn : ByteArray := prog_1_method_27_code
def yX5_worthForTurn : MethodName := ⟨RX5, "worthForTurn", "(I)I"⟩
abbrev cX5_noteWorthsBehind : ByteArray := prog_1_method_28_code
def yX5_noteWorthsBehind : MethodName := ⟨RX5, "noteWorthsBehind", "(I)V"⟩
abbrev cX5_countBetter : ByteArray := prog_1_method_29_code
def yX5_countBetter : MethodName := ⟨RX5, "countBetter", "(II)I"⟩
abbrev cX5_worthToThrow : ByteArray := prog_1_method_30_code
def yX5_worthToThrow : MethodName := ⟨RX5, "worthToThrow", "(JJII)I"⟩
abbrev cX5_worthBehindThrow : ByteArray := prog_1_method_31_code
def yX5_worthBehindThrow : MethodName := ⟨RX5, "worthBehindThrow", "(JJIII)I"⟩
abbrev cX5_worthBehindMove : ByteArray := prog_1_method_32_code
def yX5_worthBehindMove : MethodName := ⟨RX5, "worthBehindMove", "(JJIIII)I"⟩
abbrev cX5_worthAtOnce : ByteArray := prog_1_method_33_code
def yX5_worthAtOnce : MethodName := ⟨RX5, "worthAtOnce", "(JJI)I"⟩
def RX6 : String := "RoyalUrTableModel"
def TX6 : u_T := fun k => match k with
  | _ => ("", "", "", false)
def tyX6 : Nat → FieldType := fun k => match k with
  | _ => .int
abbrev wsX60 : List Cond := u_ws RX6 TX6 0
theorem nmX6 : ∀ a, a < 0 → ∀ b, b < 0 → a ≠ b → (TX6 a).2.1 ≠ (TX6 b).2.1 := by decide +kernel
theorem tyX6_ok : ∀ k, k < 0 → parseFieldDescriptor (TX6 k).2.2.1 = some (tyX6 k) := by decide +kernel
def RJ9 : String := "java/lang/Math"
def TJ9 : u_T := fun k => match k with
  | _ => ("", "", "", false)
def tyJ9 : Nat → FieldType := fun k => match k with
  | _ => .int
abbrev wsJ90 : List Cond := u_ws RJ9 TJ9 0
theorem nmJ9 : ∀ a, a < 0 → ∀ b, b < 0 → a ≠ b → (TJ9 a).2.1 ≠ (TJ9 b).2.1 := by decide +kernel
theorem tyJ9_ok : ∀ k, k < 0 → parseFieldDescriptor (TJ9 k).2.2.1 = some (tyJ9 k) := by decide +kernel
abbrev cJ9_max_7cf53 : ByteArray := prog_12_method_65_code
def yJ9_max_7cf53 : MethodName := ⟨RJ9, "max", "(II)I"⟩
abbrev cJ9_min_7cf53 : ByteArray := prog_12_method_69_code
def yJ9_min_7cf53 : MethodName := ⟨RJ9, "min", "(II)I"⟩
def RL : String := "RoyalUrTableLaw"
abbrev cL_cell : ByteArray := method_2_code
def yL_cell : MethodName := ⟨RL, "cell", "([II)I"⟩
abbrev cL_low : ByteArray := method_3_code
def yL_low : MethodName := ⟨RL, "low", "(II)I"⟩
abbrev cL_tells : ByteArray := method_4_code
def yL_tells : MethodName := ⟨RL, "tells", "(LRoyalUrTable;I)I"⟩
abbrev cL_moves : ByteArray := method_5_code
def yL_moves : MethodName := ⟨RL, "moves", "(LRoyalUrTable;I)I"⟩
abbrev cL_can : ByteArray := method_6_code
def yL_can : MethodName := ⟨RL, "can", "([IIII)Z"⟩
abbrev cL_takes : ByteArray := method_7_code
def yL_takes : MethodName := ⟨RL, "takes", "([III)Z"⟩
abbrev cL_shift : ByteArray := method_8_code
def yL_shift : MethodName := ⟨RL, "shift", "([IIII)V"⟩
abbrev cL_after : ByteArray := method_9_code
def yL_after : MethodName := ⟨RL, "after", "(II)I"⟩
abbrev cL_progress : ByteArray := method_10_code
def yL_progress : MethodName := ⟨RL, "progress", "([II)I"⟩
abbrev cL_plain : ByteArray := method_11_code
def yL_plain : MethodName := ⟨RL, "plain", "(LRoyalUrTable;[III)I"⟩
abbrev cL_ahead : ByteArray := method_12_code
def yL_ahead : MethodName := ⟨RL, "ahead", "(LRoyalUrTable;[I[III)I"⟩
abbrev cL_copy : ByteArray := method_13_code
def yL_copy : MethodName := ⟨RL, "copy", "([I[I)V"⟩
abbrev cL_behind : ByteArray := method_14_code
def yL_behind : MethodName := ⟨RL, "behind", "(LRoyalUrTable;II[I[I[I[I)I"⟩
abbrev cL_worths : ByteArray := method_15_code
def yL_worths : MethodName := ⟨RL, "worths", "(LRoyalUrTable;I[I[I[I[I[I)Z"⟩
abbrev cL_isSo : ByteArray := method_16_code
def yL_isSo : MethodName := ⟨RL, "isSo", "(LRoyalUrTable;[I[I)Z"⟩
abbrev cL_begin : ByteArray := method_17_code
def yL_begin : MethodName := ⟨RL, "begin", "(I[I[I)V"⟩
abbrev cL_turn : ByteArray := method_18_code
def yL_turn : MethodName := ⟨RL, "turn", "(LRoyalUrTable;I[I[I)Z"⟩
abbrev cL_law : ByteArray := code
def yL_law : MethodName := ⟨RL, "law", "([I)Z"⟩
def wsX0_timesIn16 : List Cond := .code yX0_timesIn16 cX0_timesIn16 1 (some .int) :: ([.fieldLink RX0 7 "RoyalUrTable$Dice" "TIMES_IN_16" "[I"])
def wsX1_init : List Cond := .code yX1_init cX1_init 1 none :: ([.methodLink RX1 5 objectInit, .instanceMethod objectInit, .code objectInit ⟨#[0xb1]⟩ 1 none, .arrayClass .int, .fieldLink RX1 13 "RoyalUrTable$Endings" "worths" "[I"] ++ wsX10)
def wsX4_canEnter : List Cond := .code yX4_canEnter cX4_canEnter 3 (some .boolean) :: ([])
def wsX4_isShared : List Cond := .code yX4_isShared cX4_isShared 1 (some .boolean) :: ([])
def wsX4_isRosette : List Cond := .code yX4_isRosette cX4_isRosette 1 (some .boolean) :: ([])
def wsX1_held : List Cond := .code yX1_held cX1_held 5 (some .int) :: ([.constant RX1 31 (500000000), .fieldLink RX1 13 "RoyalUrTable$Endings" "worths" "[I"] ++ wsX10)
def wsX1_worthBehindThrow_r1 : List Cond := [Cond.constant RX1 56 (1000000000), Cond.methodLink RX1 52 yX4_canEnter, Cond.static yX4_canEnter, Cond.initialized RX4, Cond.code yX4_canEnter cX4_canEnter 3 (some .boolean), Cond.methodLink RX1 32 yX1_worthToThrow, Cond.instanceMethod yX1_worthToThrow, Cond.selects RX1 yX1_worthToThrow yX1_worthToThrow, Cond.initialized RX1, Cond.methodLink RX1 57 yX4_isShared, Cond.static yX4_isShared, Cond.code yX4_isShared cX4_isShared 1 (some .boolean), Cond.methodLink RX1 61 yX4_isRosette, Cond.static yX4_isRosette, Cond.code yX4_isRosette cX4_isRosette 1 (some .boolean), Cond.code yX1_worthToThrow cX1_worthToThrow 8 (some .int), Cond.constantLong RX1 50 (16), Cond.methodLink RX1 36 yX1_held, Cond.instanceMethod yX1_held, Cond.selects RX1 yX1_held yX1_held, Cond.code yX1_held cX1_held 5 (some .int), Cond.constant RX1 31 (500000000), Cond.fieldLink RX1 13 "RoyalUrTable$Endings" "worths" "[I", Cond.methodLink RX1 42 yX0_timesIn16]
def wsX1_worthBehindThrow_r2 : List Cond := [Cond.static yX0_timesIn16, Cond.initialized RX0, Cond.code yX0_timesIn16 cX0_timesIn16 1 (some .int), Cond.fieldLink RX0 7 "RoyalUrTable$Dice" "TIMES_IN_16" "[I", Cond.methodLink RX1 46 yX1_worthBehindThrow, Cond.instanceMethod yX1_worthBehindThrow, Cond.selects RX1 yX1_worthBehindThrow yX1_worthBehindThrow]
def wsX1_worthBehindThrow : List Cond := .code yX1_worthBehindThrow cX1_worthBehindThrow 8 (some .int) :: ((wsX1_worthBehindThrow_r1 ++ wsX1_worthBehindThrow_r2) ++ wsX10)
def wsX1_worthToThrow_r1 : List Cond := [Cond.constantLong RX1 50 (16), Cond.methodLink RX1 36 yX1_held, Cond.instanceMethod yX1_held, Cond.selects RX1 yX1_held yX1_held, Cond.initialized RX1, Cond.code yX1_held cX1_held 5 (some .int), Cond.constant RX1 31 (500000000), Cond.fieldLink RX1 13 "RoyalUrTable$Endings" "worths" "[I", Cond.methodLink RX1 42 yX0_timesIn16, Cond.static yX0_timesIn16, Cond.initialized RX0, Cond.code yX0_timesIn16 cX0_timesIn16 1 (some .int), Cond.fieldLink RX0 7 "RoyalUrTable$Dice" "TIMES_IN_16" "[I", Cond.methodLink RX1 46 yX1_worthBehindThrow, Cond.instanceMethod yX1_worthBehindThrow, Cond.selects RX1 yX1_worthBehindThrow yX1_worthBehindThrow, Cond.code yX1_worthBehindThrow cX1_worthBehindThrow 8 (some .int), Cond.constant RX1 56 (1000000000), Cond.methodLink RX1 52 yX4_canEnter, Cond.static yX4_canEnter, Cond.initialized RX4, Cond.code yX4_canEnter cX4_canEnter 3 (some .boolean), Cond.methodLink RX1 32 yX1_worthToThrow, Cond.instanceMethod yX1_worthToThrow]
def wsX1_worthToThrow_r2 : List Cond := [Cond.selects RX1 yX1_worthToThrow yX1_worthToThrow, Cond.methodLink RX1 57 yX4_isShared, Cond.static yX4_isShared, Cond.code yX4_isShared cX4_isShared 1 (some .boolean), Cond.methodLink RX1 61 yX4_isRosette, Cond.static yX4_isRosette, Cond.code yX4_isRosette cX4_isRosette 1 (some .boolean)]
def wsX1_worthToThrow : List Cond := .code yX1_worthToThrow cX1_worthToThrow 8 (some .int) :: ((wsX1_worthToThrow_r1 ++ wsX1_worthToThrow_r2) ++ wsX10)
def wsX1_fillRow_r1 : List Cond := [Cond.fieldLink RX1 13 "RoyalUrTable$Endings" "worths" "[I", Cond.methodLink RX1 32 yX1_worthToThrow, Cond.instanceMethod yX1_worthToThrow, Cond.selects RX1 yX1_worthToThrow yX1_worthToThrow, Cond.initialized RX1, Cond.code yX1_worthToThrow cX1_worthToThrow 8 (some .int), Cond.constantLong RX1 50 (16), Cond.methodLink RX1 36 yX1_held, Cond.instanceMethod yX1_held, Cond.selects RX1 yX1_held yX1_held, Cond.code yX1_held cX1_held 5 (some .int), Cond.constant RX1 31 (500000000), Cond.methodLink RX1 42 yX0_timesIn16, Cond.static yX0_timesIn16, Cond.initialized RX0, Cond.code yX0_timesIn16 cX0_timesIn16 1 (some .int), Cond.fieldLink RX0 7 "RoyalUrTable$Dice" "TIMES_IN_16" "[I", Cond.methodLink RX1 46 yX1_worthBehindThrow, Cond.instanceMethod yX1_worthBehindThrow, Cond.selects RX1 yX1_worthBehindThrow yX1_worthBehindThrow, Cond.code yX1_worthBehindThrow cX1_worthBehindThrow 8 (some .int), Cond.constant RX1 56 (1000000000), Cond.methodLink RX1 52 yX4_canEnter, Cond.static yX4_canEnter]
def wsX1_fillRow_r2 : List Cond := [Cond.initialized RX4, Cond.code yX4_canEnter cX4_canEnter 3 (some .boolean), Cond.methodLink RX1 57 yX4_isShared, Cond.static yX4_isShared, Cond.code yX4_isShared cX4_isShared 1 (some .boolean), Cond.methodLink RX1 61 yX4_isRosette, Cond.static yX4_isRosette, Cond.code yX4_isRosette cX4_isRosette 1 (some .boolean)]
def wsX1_fillRow : List Cond := .code yX1_fillRow cX1_fillRow 5 none :: ((wsX1_fillRow_r1 ++ wsX1_fillRow_r2) ++ wsX10)
def wsX1_fillUpTo_r1 : List Cond := [Cond.methodLink RX1 17 Lib.Math.min.name, Cond.static Lib.Math.min.name, Cond.initialized "java/lang/Math", Cond.code Lib.Math.min.name Lib.Math.min.code 2 (some .int), Cond.fieldLink RX1 23 "RoyalUrTable$Endings" "roundsHeld" "I", Cond.methodLink RX1 27 yX1_fillRow, Cond.instanceMethod yX1_fillRow, Cond.selects RX1 yX1_fillRow yX1_fillRow, Cond.initialized RX1, Cond.code yX1_fillRow cX1_fillRow 5 none, Cond.fieldLink RX1 13 "RoyalUrTable$Endings" "worths" "[I", Cond.methodLink RX1 32 yX1_worthToThrow, Cond.instanceMethod yX1_worthToThrow, Cond.selects RX1 yX1_worthToThrow yX1_worthToThrow, Cond.code yX1_worthToThrow cX1_worthToThrow 8 (some .int), Cond.constantLong RX1 50 (16), Cond.methodLink RX1 36 yX1_held, Cond.instanceMethod yX1_held, Cond.selects RX1 yX1_held yX1_held, Cond.code yX1_held cX1_held 5 (some .int), Cond.constant RX1 31 (500000000), Cond.methodLink RX1 42 yX0_timesIn16, Cond.static yX0_timesIn16, Cond.initialized RX0]
def wsX1_fillUpTo_r2 : List Cond := [Cond.code yX0_timesIn16 cX0_timesIn16 1 (some .int), Cond.fieldLink RX0 7 "RoyalUrTable$Dice" "TIMES_IN_16" "[I", Cond.methodLink RX1 46 yX1_worthBehindThrow, Cond.instanceMethod yX1_worthBehindThrow, Cond.selects RX1 yX1_worthBehindThrow yX1_worthBehindThrow, Cond.code yX1_worthBehindThrow cX1_worthBehindThrow 8 (some .int), Cond.constant RX1 56 (1000000000), Cond.methodLink RX1 52 yX4_canEnter, Cond.static yX4_canEnter, Cond.initialized RX4, Cond.code yX4_canEnter cX4_canEnter 3 (some .boolean), Cond.methodLink RX1 57 yX4_isShared, Cond.static yX4_isShared, Cond.code yX4_isShared cX4_isShared 1 (some .boolean), Cond.methodLink RX1 61 yX4_isRosette, Cond.static yX4_isRosette, Cond.code yX4_isRosette cX4_isRosette 1 (some .boolean)]
def wsX1_fillUpTo : List Cond := .code yX1_fillUpTo cX1_fillUpTo 4 none :: ((wsX1_fillUpTo_r1 ++ wsX1_fillUpTo_r2) ++ wsX10)
def wsX2_allAtStart : List Cond := .code yX2_allAtStart cX2_allAtStart 1 (some .long) :: ([])
def wsX2_countAt : List Cond := .code yX2_countAt cX2_countAt 3 (some .int) :: ([])
def wsX2_shifted : List Cond := .code yX2_shifted cX2_shifted 4 (some .long) :: ([])
def wsX2_isAllHome : List Cond := .code yX2_isAllHome cX2_isAllHome 2 (some .boolean) :: ([.constantLong RX2 11 (1152921504606846975)])
def wsX2_sumOfPlaces : List Cond := .code yX2_sumOfPlaces cX2_sumOfPlaces 4 (some .int) :: ([.methodLink RX2 13 yX2_countAt, .static yX2_countAt, .initialized RX2, .code yX2_countAt cX2_countAt 3 (some .int)])
def wsX2_firstPlace : List Cond := .code yX2_firstPlace cX2_firstPlace 3 (some .int) :: ([.methodLink RX2 13 yX2_countAt, .static yX2_countAt, .initialized RX2, .code yX2_countAt cX2_countAt 3 (some .int)])
def wsX2_canMove : List Cond := .code yX2_canMove cX2_canMove 7 (some .boolean) :: ([.methodLink RX2 13 yX2_countAt, .static yX2_countAt, .initialized RX2, .code yX2_countAt cX2_countAt 3 (some .int), .methodLink RX2 17 yX4_canEnter, .static yX4_canEnter, .initialized RX4, .code yX4_canEnter cX4_canEnter 3 (some .boolean)])
def wsX2_canBeTaken : List Cond := .code yX2_canBeTaken cX2_canBeTaken 3 (some .boolean) :: ([.methodLink RX2 21 yX4_isShared, .static yX4_isShared, .initialized RX4, .code yX4_isShared cX4_isShared 1 (some .boolean), .methodLink RX2 13 yX2_countAt, .static yX2_countAt, .initialized RX2, .code yX2_countAt cX2_countAt 3 (some .int)])
def wsX3_init : List Cond := .code yX3_init cX3_init 1 none :: ([.methodLink RX3 1 objectInit, .instanceMethod objectInit, .code objectInit ⟨#[0xb1]⟩ 1 none])
def wsX5_setUp : List Cond := .code yX5_setUp cX5_setUp 2 none :: ([.fieldLink RX5 135 "RoyalUrTable" "piecesOfEach" "I", .fieldLink RX5 10 "RoyalUrTable" "side0" "LRoyalUrTable$Side;", .fieldLink RX5 70 "RoyalUrTable$Side" "layout" "J", .fieldLink RX5 16 "RoyalUrTable" "side1" "LRoyalUrTable$Side;", .fieldLink RX5 84 "RoyalUrTable$Side" "lost" "I", .fieldLink RX5 59 "RoyalUrTable" "turn" "I", .fieldLink RX5 46 "RoyalUrTable" "marksTold" "I", .fieldLink RX5 42 "RoyalUrTable" "winner" "I", .fieldLink RX5 52 "RoyalUrTable" "throwsTold" "I", .methodLink RX5 138 yX2_allAtStart, .static yX2_allAtStart, .initialized RX2, .code yX2_allAtStart cX2_allAtStart 1 (some .long)] ++ wsX50 ++ wsX30)
def wsX5_init_r1 : List Cond := [Cond.methodLink RX5 1 objectInit, Cond.instanceMethod objectInit, Cond.code objectInit ⟨#[0xb1]⟩ 1 none, Cond.classLink RX5 7 RX3, Cond.instantiable RX3 2, Cond.initialized RX3, Cond.fieldLink RX5 10 "RoyalUrTable" "side0" "LRoyalUrTable$Side;", Cond.fieldLink RX5 16 "RoyalUrTable" "side1" "LRoyalUrTable$Side;", Cond.classLink RX5 19 RX1, Cond.instantiable RX1 2, Cond.initialized RX1, Cond.fieldLink RX5 22 "RoyalUrTable" "endings" "LRoyalUrTable$Endings;", Cond.arrayClass .int, Cond.fieldLink RX5 28 "RoyalUrTable" "worthsBehind" "[I", Cond.instanceMethod yX3_init, Cond.code yX3_init cX3_init 1 none, Cond.methodLink RX3 1 objectInit, Cond.methodLink RX5 21 yX1_init, Cond.instanceMethod yX1_init, Cond.code yX1_init cX1_init 1 none, Cond.methodLink RX1 5 objectInit, Cond.fieldLink RX1 13 "RoyalUrTable$Endings" "worths" "[I", Cond.methodLink RX5 32 yX5_setUp, Cond.instanceMethod yX5_setUp]
def wsX5_init_r2 : List Cond := [Cond.selects RX5 yX5_setUp yX5_setUp, Cond.initialized RX5, Cond.code yX5_setUp cX5_setUp 2 none, Cond.fieldLink RX5 135 "RoyalUrTable" "piecesOfEach" "I", Cond.fieldLink RX5 70 "RoyalUrTable$Side" "layout" "J", Cond.fieldLink RX5 84 "RoyalUrTable$Side" "lost" "I", Cond.fieldLink RX5 59 "RoyalUrTable" "turn" "I", Cond.fieldLink RX5 46 "RoyalUrTable" "marksTold" "I", Cond.fieldLink RX5 42 "RoyalUrTable" "winner" "I", Cond.fieldLink RX5 52 "RoyalUrTable" "throwsTold" "I", Cond.methodLink RX5 138 yX2_allAtStart, Cond.static yX2_allAtStart, Cond.initialized RX2, Cond.code yX2_allAtStart cX2_allAtStart 1 (some .long)]
def wsX5_init : List Cond := .code yX5_init cX5_init 1 none :: ((wsX5_init_r1 ++ wsX5_init_r2) ++ wsX30 ++ wsX50 ++ wsX10)
def wsX5_refuseOutside : List Cond := .code yX5_refuseOutside cX5_refuseOutside 3 none :: ([.classLink RX5 108 "java/lang/IllegalArgumentException", .initialized "java/lang/IllegalArgumentException"] ++ (vx_at0 RX5 110 "java/lang/IllegalArgumentException" ["java/lang/RuntimeException", "java/lang/Exception"]).filter goodWord)
def wsX5_begin : List Cond := .code yX5_begin cX5_begin 2 none :: ([.methodLink RX5 36 yX5_refuseOutside, .static yX5_refuseOutside, .initialized RX5, .code yX5_refuseOutside cX5_refuseOutside 3 none, .classLink RX5 108 "java/lang/IllegalArgumentException", .initialized "java/lang/IllegalArgumentException", .methodLink RX5 32 yX5_setUp, .instanceMethod yX5_setUp, .selects RX5 yX5_setUp yX5_setUp, .code yX5_setUp cX5_setUp 2 none, .fieldLink RX5 135 "RoyalUrTable" "piecesOfEach" "I", .fieldLink RX5 10 "RoyalUrTable" "side0" "LRoyalUrTable$Side;", .fieldLink RX5 70 "RoyalUrTable$Side" "layout" "J", .fieldLink RX5 16 "RoyalUrTable" "side1" "LRoyalUrTable$Side;", .fieldLink RX5 84 "RoyalUrTable$Side" "lost" "I", .fieldLink RX5 59 "RoyalUrTable" "turn" "I", .fieldLink RX5 46 "RoyalUrTable" "marksTold" "I", .fieldLink RX5 42 "RoyalUrTable" "winner" "I", .fieldLink RX5 52 "RoyalUrTable" "throwsTold" "I", .methodLink RX5 138 yX2_allAtStart, .static yX2_allAtStart, .initialized RX2, .code yX2_allAtStart cX2_allAtStart 1 (some .long)] ++ wsX50 ++ wsX30 ++ (vx_at0 RX5 110 "java/lang/IllegalArgumentException" ["java/lang/RuntimeException", "java/lang/Exception"]).filter goodWord)
def wsX5_sideOf : List Cond := .code yX5_sideOf cX5_sideOf 2 (some (.object "RoyalUrTable$Side")) :: ([.fieldLink RX5 10 "RoyalUrTable" "side0" "LRoyalUrTable$Side;", .fieldLink RX5 16 "RoyalUrTable" "side1" "LRoyalUrTable$Side;"] ++ wsX50)
def wsX5_countMoves : List Cond := .code yX5_countMoves cX5_countMoves 8 (some .int) :: ([.fieldLink RX5 59 "RoyalUrTable" "turn" "I", .fieldLink RX5 70 "RoyalUrTable$Side" "layout" "J", .methodLink RX5 66 yX5_sideOf, .instanceMethod yX5_sideOf, .selects RX5 yX5_sideOf yX5_sideOf, .initialized RX5, .code yX5_sideOf cX5_sideOf 2 (some (.object "RoyalUrTable$Side")), .fieldLink RX5 10 "RoyalUrTable" "side0" "LRoyalUrTable$Side;", .fieldLink RX5 16 "RoyalUrTable" "side1" "LRoyalUrTable$Side;", .methodLink RX5 142 yX2_canMove, .static yX2_canMove, .initialized RX2, .code yX2_canMove cX2_canMove 7 (some .boolean), .methodLink RX2 13 yX2_countAt, .static yX2_countAt, .code yX2_countAt cX2_countAt 3 (some .int), .methodLink RX2 17 yX4_canEnter, .static yX4_canEnter, .initialized RX4, .code yX4_canEnter cX4_canEnter 3 (some .boolean)] ++ wsX50 ++ wsX30)
def wsX5_tell_r1 : List Cond := [Cond.classLink RX5 49 "java/lang/IllegalStateException", Cond.initialized "java/lang/IllegalStateException", Cond.fieldLink RX5 42 "RoyalUrTable" "winner" "I", Cond.fieldLink RX5 46 "RoyalUrTable" "marksTold" "I", Cond.fieldLink RX5 52 "RoyalUrTable" "throwsTold" "I", Cond.fieldLink RX5 59 "RoyalUrTable" "turn" "I", Cond.methodLink RX5 36 yX5_refuseOutside, Cond.static yX5_refuseOutside, Cond.initialized RX5, Cond.code yX5_refuseOutside cX5_refuseOutside 3 none, Cond.classLink RX5 108 "java/lang/IllegalArgumentException", Cond.initialized "java/lang/IllegalArgumentException", Cond.methodLink RX5 55 yX5_countMoves, Cond.instanceMethod yX5_countMoves, Cond.selects RX5 yX5_countMoves yX5_countMoves, Cond.code yX5_countMoves cX5_countMoves 8 (some .int), Cond.fieldLink RX5 70 "RoyalUrTable$Side" "layout" "J", Cond.methodLink RX5 66 yX5_sideOf, Cond.instanceMethod yX5_sideOf, Cond.selects RX5 yX5_sideOf yX5_sideOf, Cond.code yX5_sideOf cX5_sideOf 2 (some (.object "RoyalUrTable$Side")), Cond.fieldLink RX5 10 "RoyalUrTable" "side0" "LRoyalUrTable$Side;", Cond.fieldLink RX5 16 "RoyalUrTable" "side1" "LRoyalUrTable$Side;", Cond.methodLink RX5 142 yX2_canMove]
def wsX5_tell_r2 : List Cond := [Cond.static yX2_canMove, Cond.initialized RX2, Cond.code yX2_canMove cX2_canMove 7 (some .boolean), Cond.methodLink RX2 13 yX2_countAt, Cond.static yX2_countAt, Cond.code yX2_countAt cX2_countAt 3 (some .int), Cond.methodLink RX2 17 yX4_canEnter, Cond.static yX4_canEnter, Cond.initialized RX4, Cond.code yX4_canEnter cX4_canEnter 3 (some .boolean)]
def wsX5_tell : List Cond := .code yX5_tell cX5_tell 3 (some .int) :: ((wsX5_tell_r1 ++ wsX5_tell_r2) ++ wsX50 ++ wsX30 ++ (vx_at0 RX5 51 "java/lang/IllegalStateException" ["java/lang/RuntimeException", "java/lang/Exception"]).filter goodWord ++ (vx_at0 RX5 110 "java/lang/IllegalArgumentException" ["java/lang/RuntimeException", "java/lang/Exception"]).filter goodWord)
def wsX5_canMoveFrom : List Cond := .code yX5_canMoveFrom cX5_canMoveFrom 2 (some .boolean) :: ([.fieldLink RX5 59 "RoyalUrTable" "turn" "I", .fieldLink RX5 70 "RoyalUrTable$Side" "layout" "J", .fieldLink RX5 46 "RoyalUrTable" "marksTold" "I", .methodLink RX5 66 yX5_sideOf, .instanceMethod yX5_sideOf, .selects RX5 yX5_sideOf yX5_sideOf, .initialized RX5, .code yX5_sideOf cX5_sideOf 2 (some (.object "RoyalUrTable$Side")), .fieldLink RX5 10 "RoyalUrTable" "side0" "LRoyalUrTable$Side;", .fieldLink RX5 16 "RoyalUrTable" "side1" "LRoyalUrTable$Side;", .methodLink RX5 142 yX2_canMove, .static yX2_canMove, .initialized RX2, .code yX2_canMove cX2_canMove 7 (some .boolean), .methodLink RX2 13 yX2_countAt, .static yX2_countAt, .code yX2_countAt cX2_countAt 3 (some .int), .methodLink RX2 17 yX4_canEnter, .static yX4_canEnter, .initialized RX4, .code yX4_canEnter cX4_canEnter 3 (some .boolean)] ++ wsX50 ++ wsX30)
def wsX5_move_r1 : List Cond := [Cond.classLink RX5 49 "java/lang/IllegalStateException", Cond.initialized "java/lang/IllegalStateException", Cond.fieldLink RX5 46 "RoyalUrTable" "marksTold" "I", Cond.fieldLink RX5 59 "RoyalUrTable" "turn" "I", Cond.fieldLink RX5 70 "RoyalUrTable$Side" "layout" "J", Cond.fieldLink RX5 84 "RoyalUrTable$Side" "lost" "I", Cond.fieldLink RX5 42 "RoyalUrTable" "winner" "I", Cond.methodLink RX5 36 yX5_refuseOutside, Cond.static yX5_refuseOutside, Cond.initialized RX5, Cond.code yX5_refuseOutside cX5_refuseOutside 3 none, Cond.classLink RX5 108 "java/lang/IllegalArgumentException", Cond.initialized "java/lang/IllegalArgumentException", Cond.methodLink RX5 62 yX5_canMoveFrom, Cond.instanceMethod yX5_canMoveFrom, Cond.selects RX5 yX5_canMoveFrom yX5_canMoveFrom, Cond.code yX5_canMoveFrom cX5_canMoveFrom 2 (some .boolean), Cond.methodLink RX5 66 yX5_sideOf, Cond.instanceMethod yX5_sideOf, Cond.selects RX5 yX5_sideOf yX5_sideOf, Cond.code yX5_sideOf cX5_sideOf 2 (some (.object "RoyalUrTable$Side")), Cond.fieldLink RX5 10 "RoyalUrTable" "side0" "LRoyalUrTable$Side;", Cond.fieldLink RX5 16 "RoyalUrTable" "side1" "LRoyalUrTable$Side;", Cond.methodLink RX5 142 yX2_canMove]
def wsX5_move_r2 : List Cond := [Cond.static yX2_canMove, Cond.initialized RX2, Cond.code yX2_canMove cX2_canMove 7 (some .boolean), Cond.methodLink RX2 13 yX2_countAt, Cond.static yX2_countAt, Cond.code yX2_countAt cX2_countAt 3 (some .int), Cond.methodLink RX2 17 yX4_canEnter, Cond.static yX4_canEnter, Cond.initialized RX4, Cond.code yX4_canEnter cX4_canEnter 3 (some .boolean), Cond.methodLink RX5 74 yX2_shifted, Cond.static yX2_shifted, Cond.code yX2_shifted cX2_shifted 4 (some .long), Cond.methodLink RX5 80 yX2_canBeTaken, Cond.static yX2_canBeTaken, Cond.code yX2_canBeTaken cX2_canBeTaken 3 (some .boolean), Cond.methodLink RX2 21 yX4_isShared, Cond.static yX4_isShared, Cond.code yX4_isShared cX4_isShared 1 (some .boolean), Cond.methodLink RX5 87 yX2_isAllHome, Cond.static yX2_isAllHome, Cond.code yX2_isAllHome cX2_isAllHome 2 (some .boolean), Cond.constantLong RX2 11 (1152921504606846975), Cond.methodLink RX5 91 yX4_isRosette]
def wsX5_move_r3 : List Cond := [Cond.static yX4_isRosette, Cond.code yX4_isRosette cX4_isRosette 1 (some .boolean)]
def wsX5_move : List Cond := .code yX5_move cX5_move 5 (some .int) :: ((wsX5_move_r1 ++ (wsX5_move_r2 ++ wsX5_move_r3)) ++ wsX50 ++ wsX30 ++ (vx_at0 RX5 51 "java/lang/IllegalStateException" ["java/lang/RuntimeException", "java/lang/Exception"]).filter goodWord ++ (vx_at0 RX5 110 "java/lang/IllegalArgumentException" ["java/lang/RuntimeException", "java/lang/Exception"]).filter goodWord)
def wsX5_turn : List Cond := .code yX5_turn cX5_turn 1 (some .int) :: ([.fieldLink RX5 59 "RoyalUrTable" "turn" "I"] ++ wsX50)
def wsX5_marks : List Cond := .code yX5_marks cX5_marks 1 (some .int) :: ([.fieldLink RX5 46 "RoyalUrTable" "marksTold" "I"] ++ wsX50)
def wsX5_winner : List Cond := .code yX5_winner cX5_winner 1 (some .int) :: ([.fieldLink RX5 42 "RoyalUrTable" "winner" "I"] ++ wsX50)
def wsX5_at : List Cond := .code yX5_at cX5_at 3 (some .int) :: ([.fieldLink RX5 70 "RoyalUrTable$Side" "layout" "J", .methodLink RX5 36 yX5_refuseOutside, .static yX5_refuseOutside, .initialized RX5, .code yX5_refuseOutside cX5_refuseOutside 3 none, .classLink RX5 108 "java/lang/IllegalArgumentException", .initialized "java/lang/IllegalArgumentException", .methodLink RX5 66 yX5_sideOf, .instanceMethod yX5_sideOf, .selects RX5 yX5_sideOf yX5_sideOf, .code yX5_sideOf cX5_sideOf 2 (some (.object "RoyalUrTable$Side")), .fieldLink RX5 10 "RoyalUrTable" "side0" "LRoyalUrTable$Side;", .fieldLink RX5 16 "RoyalUrTable" "side1" "LRoyalUrTable$Side;", .methodLink RX5 94 yX2_countAt, .static yX2_countAt, .initialized RX2, .code yX2_countAt cX2_countAt 3 (some .int)] ++ wsX30 ++ wsX50 ++ (vx_at0 RX5 110 "java/lang/IllegalArgumentException" ["java/lang/RuntimeException", "java/lang/Exception"]).filter goodWord)
def wsX5_progress : List Cond := .code yX5_progress cX5_progress 2 (some .int) :: ([.fieldLink RX5 70 "RoyalUrTable$Side" "layout" "J", .methodLink RX5 36 yX5_refuseOutside, .static yX5_refuseOutside, .initialized RX5, .code yX5_refuseOutside cX5_refuseOutside 3 none, .classLink RX5 108 "java/lang/IllegalArgumentException", .initialized "java/lang/IllegalArgumentException", .methodLink RX5 66 yX5_sideOf, .instanceMethod yX5_sideOf, .selects RX5 yX5_sideOf yX5_sideOf, .code yX5_sideOf cX5_sideOf 2 (some (.object "RoyalUrTable$Side")), .fieldLink RX5 10 "RoyalUrTable" "side0" "LRoyalUrTable$Side;", .fieldLink RX5 16 "RoyalUrTable" "side1" "LRoyalUrTable$Side;", .methodLink RX5 98 yX2_sumOfPlaces, .static yX2_sumOfPlaces, .initialized RX2, .code yX2_sumOfPlaces cX2_sumOfPlaces 4 (some .int), .methodLink RX2 13 yX2_countAt, .static yX2_countAt, .code yX2_countAt cX2_countAt 3 (some .int)] ++ wsX30 ++ wsX50 ++ (vx_at0 RX5 110 "java/lang/IllegalArgumentException" ["java/lang/RuntimeException", "java/lang/Exception"]).filter goodWord)
def wsX5_captured : List Cond := .code yX5_captured cX5_captured 2 (some .int) :: ([.fieldLink RX5 84 "RoyalUrTable$Side" "lost" "I", .methodLink RX5 36 yX5_refuseOutside, .static yX5_refuseOutside, .initialized RX5, .code yX5_refuseOutside cX5_refuseOutside 3 none, .classLink RX5 108 "java/lang/IllegalArgumentException", .initialized "java/lang/IllegalArgumentException", .methodLink RX5 66 yX5_sideOf, .instanceMethod yX5_sideOf, .selects RX5 yX5_sideOf yX5_sideOf, .code yX5_sideOf cX5_sideOf 2 (some (.object "RoyalUrTable$Side")), .fieldLink RX5 10 "RoyalUrTable" "side0" "LRoyalUrTable$Side;", .fieldLink RX5 16 "RoyalUrTable" "side1" "LRoyalUrTable$Side;"] ++ wsX30 ++ wsX50 ++ (vx_at0 RX5 110 "java/lang/IllegalArgumentException" ["java/lang/RuntimeException", "java/lang/Exception"]).filter goodWord)
def wsX5_throwsTold : List Cond := .code yX5_throwsTold cX5_throwsTold 1 (some .int) :: ([.fieldLink RX5 52 "RoyalUrTable" "throwsTold" "I"] ++ wsX50)
def wsX5_moves_r1 : List Cond := [Cond.fieldLink RX5 46 "RoyalUrTable" "marksTold" "I", Cond.methodLink RX5 55 yX5_countMoves, Cond.instanceMethod yX5_countMoves, Cond.selects RX5 yX5_countMoves yX5_countMoves, Cond.initialized RX5, Cond.code yX5_countMoves cX5_countMoves 8 (some .int), Cond.fieldLink RX5 59 "RoyalUrTable" "turn" "I", Cond.fieldLink RX5 70 "RoyalUrTable$Side" "layout" "J", Cond.methodLink RX5 66 yX5_sideOf, Cond.instanceMethod yX5_sideOf, Cond.selects RX5 yX5_sideOf yX5_sideOf, Cond.code yX5_sideOf cX5_sideOf 2 (some (.object "RoyalUrTable$Side")), Cond.fieldLink RX5 10 "RoyalUrTable" "side0" "LRoyalUrTable$Side;", Cond.fieldLink RX5 16 "RoyalUrTable" "side1" "LRoyalUrTable$Side;", Cond.methodLink RX5 142 yX2_canMove, Cond.static yX2_canMove, Cond.initialized RX2, Cond.code yX2_canMove cX2_canMove 7 (some .boolean), Cond.methodLink RX2 13 yX2_countAt, Cond.static yX2_countAt, Cond.code yX2_countAt cX2_countAt 3 (some .int), Cond.methodLink RX2 17 yX4_canEnter, Cond.static yX4_canEnter, Cond.initialized RX4]
def wsX5_moves_r2 : List Cond := [Cond.code yX4_canEnter cX4_canEnter 3 (some .boolean)]
def wsX5_moves : List Cond := .code yX5_moves cX5_moves 1 (some .int) :: ((wsX5_moves_r1 ++ wsX5_moves_r2) ++ wsX50 ++ wsX30)
def wsX5_moveAt_r1 : List Cond := [Cond.methodLink RX5 62 yX5_canMoveFrom, Cond.instanceMethod yX5_canMoveFrom, Cond.selects RX5 yX5_canMoveFrom yX5_canMoveFrom, Cond.initialized RX5, Cond.code yX5_canMoveFrom cX5_canMoveFrom 2 (some .boolean), Cond.fieldLink RX5 59 "RoyalUrTable" "turn" "I", Cond.fieldLink RX5 70 "RoyalUrTable$Side" "layout" "J", Cond.fieldLink RX5 46 "RoyalUrTable" "marksTold" "I", Cond.methodLink RX5 66 yX5_sideOf, Cond.instanceMethod yX5_sideOf, Cond.selects RX5 yX5_sideOf yX5_sideOf, Cond.code yX5_sideOf cX5_sideOf 2 (some (.object "RoyalUrTable$Side")), Cond.fieldLink RX5 10 "RoyalUrTable" "side0" "LRoyalUrTable$Side;", Cond.fieldLink RX5 16 "RoyalUrTable" "side1" "LRoyalUrTable$Side;", Cond.methodLink RX5 142 yX2_canMove, Cond.static yX2_canMove, Cond.initialized RX2, Cond.code yX2_canMove cX2_canMove 7 (some .boolean), Cond.methodLink RX2 13 yX2_countAt, Cond.static yX2_countAt, Cond.code yX2_countAt cX2_countAt 3 (some .int), Cond.methodLink RX2 17 yX4_canEnter, Cond.static yX4_canEnter, Cond.initialized RX4]
def wsX5_moveAt_r2 : List Cond := [Cond.code yX4_canEnter cX4_canEnter 3 (some .boolean)]
def wsX5_moveAt : List Cond := .code yX5_moveAt cX5_moveAt 4 (some .int) :: ((wsX5_moveAt_r1 ++ wsX5_moveAt_r2) ++ wsX50 ++ wsX30)
def wsX5_captures_r1 : List Cond := [Cond.fieldLink RX5 59 "RoyalUrTable" "turn" "I", Cond.fieldLink RX5 70 "RoyalUrTable$Side" "layout" "J", Cond.fieldLink RX5 46 "RoyalUrTable" "marksTold" "I", Cond.methodLink RX5 36 yX5_refuseOutside, Cond.static yX5_refuseOutside, Cond.initialized RX5, Cond.code yX5_refuseOutside cX5_refuseOutside 3 none, Cond.classLink RX5 108 "java/lang/IllegalArgumentException", Cond.initialized "java/lang/IllegalArgumentException", Cond.methodLink RX5 62 yX5_canMoveFrom, Cond.instanceMethod yX5_canMoveFrom, Cond.selects RX5 yX5_canMoveFrom yX5_canMoveFrom, Cond.code yX5_canMoveFrom cX5_canMoveFrom 2 (some .boolean), Cond.methodLink RX5 66 yX5_sideOf, Cond.instanceMethod yX5_sideOf, Cond.selects RX5 yX5_sideOf yX5_sideOf, Cond.code yX5_sideOf cX5_sideOf 2 (some (.object "RoyalUrTable$Side")), Cond.fieldLink RX5 10 "RoyalUrTable" "side0" "LRoyalUrTable$Side;", Cond.fieldLink RX5 16 "RoyalUrTable" "side1" "LRoyalUrTable$Side;", Cond.methodLink RX5 142 yX2_canMove, Cond.static yX2_canMove, Cond.initialized RX2, Cond.code yX2_canMove cX2_canMove 7 (some .boolean), Cond.methodLink RX2 13 yX2_countAt]
def wsX5_captures_r2 : List Cond := [Cond.static yX2_countAt, Cond.code yX2_countAt cX2_countAt 3 (some .int), Cond.methodLink RX2 17 yX4_canEnter, Cond.static yX4_canEnter, Cond.initialized RX4, Cond.code yX4_canEnter cX4_canEnter 3 (some .boolean), Cond.methodLink RX5 80 yX2_canBeTaken, Cond.static yX2_canBeTaken, Cond.code yX2_canBeTaken cX2_canBeTaken 3 (some .boolean), Cond.methodLink RX2 21 yX4_isShared, Cond.static yX4_isShared, Cond.code yX4_isShared cX4_isShared 1 (some .boolean)]
def wsX5_captures : List Cond := .code yX5_captures cX5_captures 2 (some .boolean) :: ((wsX5_captures_r1 ++ wsX5_captures_r2) ++ wsX50 ++ wsX30 ++ (vx_at0 RX5 110 "java/lang/IllegalArgumentException" ["java/lang/RuntimeException", "java/lang/Exception"]).filter goodWord)
def wsX5_leadOfTurn : List Cond := .code yX5_leadOfTurn cX5_leadOfTurn 1 (some .int) :: ([.fieldLink RX5 59 "RoyalUrTable" "turn" "I", .fieldLink RX5 70 "RoyalUrTable$Side" "layout" "J", .methodLink RX5 66 yX5_sideOf, .instanceMethod yX5_sideOf, .selects RX5 yX5_sideOf yX5_sideOf, .initialized RX5, .code yX5_sideOf cX5_sideOf 2 (some (.object "RoyalUrTable$Side")), .fieldLink RX5 10 "RoyalUrTable" "side0" "LRoyalUrTable$Side;", .fieldLink RX5 16 "RoyalUrTable" "side1" "LRoyalUrTable$Side;", .methodLink RX5 98 yX2_sumOfPlaces, .static yX2_sumOfPlaces, .initialized RX2, .code yX2_sumOfPlaces cX2_sumOfPlaces 4 (some .int), .methodLink RX2 13 yX2_countAt, .static yX2_countAt, .code yX2_countAt cX2_countAt 3 (some .int)] ++ wsX50 ++ wsX30)
def wsX5_worthAtOnce_r1 : List Cond := [Cond.fieldLink RX5 135 "RoyalUrTable" "piecesOfEach" "I", Cond.fieldLink RX5 22 "RoyalUrTable" "endings" "LRoyalUrTable$Endings;", Cond.constant RX5 179 (500000000), Cond.constant RX5 180 (4000000), Cond.methodLink RX5 171 Lib.Math.max.name, Cond.static Lib.Math.max.name, Cond.initialized "java/lang/Math", Cond.code Lib.Math.max.name Lib.Math.max.code 2 (some .int), Cond.constant RX5 181 (999999999), Cond.methodLink RX5 182 Lib.Math.min.name, Cond.static Lib.Math.min.name, Cond.code Lib.Math.min.name Lib.Math.min.code 2 (some .int), Cond.methodLink RX5 94 yX2_countAt, Cond.static yX2_countAt, Cond.initialized RX2, Cond.code yX2_countAt cX2_countAt 3 (some .int), Cond.methodLink RX5 176 yX2_firstPlace, Cond.static yX2_firstPlace, Cond.code yX2_firstPlace cX2_firstPlace 3 (some .int), Cond.methodLink RX2 13 yX2_countAt, Cond.methodLink RX5 125 yX1_held, Cond.instanceMethod yX1_held, Cond.selects RX1 yX1_held yX1_held, Cond.initialized RX1]
def wsX5_worthAtOnce_r2 : List Cond := [Cond.code yX1_held cX1_held 5 (some .int), Cond.constant RX1 31 (500000000), Cond.fieldLink RX1 13 "RoyalUrTable$Endings" "worths" "[I"]
def wsX5_worthAtOnce : List Cond := .code yX5_worthAtOnce cX5_worthAtOnce 7 (some .int) :: ((wsX5_worthAtOnce_r1 ++ wsX5_worthAtOnce_r2) ++ wsX50 ++ wsX10)
def wsX5_worthBehindMove_r1 : List Cond := [Cond.constant RX5 105 (1000000000), Cond.methodLink RX5 74 yX2_shifted, Cond.static yX2_shifted, Cond.initialized RX2, Cond.code yX2_shifted cX2_shifted 4 (some .long), Cond.methodLink RX5 87 yX2_isAllHome, Cond.static yX2_isAllHome, Cond.code yX2_isAllHome cX2_isAllHome 2 (some .boolean), Cond.constantLong RX2 11 (1152921504606846975), Cond.methodLink RX5 80 yX2_canBeTaken, Cond.static yX2_canBeTaken, Cond.code yX2_canBeTaken cX2_canBeTaken 3 (some .boolean), Cond.methodLink RX2 21 yX4_isShared, Cond.static yX4_isShared, Cond.initialized RX4, Cond.code yX4_isShared cX4_isShared 1 (some .boolean), Cond.methodLink RX2 13 yX2_countAt, Cond.static yX2_countAt, Cond.code yX2_countAt cX2_countAt 3 (some .int), Cond.methodLink RX5 91 yX4_isRosette, Cond.static yX4_isRosette, Cond.code yX4_isRosette cX4_isRosette 1 (some .boolean), Cond.methodLink RX5 150 yX5_worthToThrow, Cond.instanceMethod yX5_worthToThrow]
def wsX5_worthBehindMove_r2 : List Cond := [Cond.selects RX5 yX5_worthToThrow yX5_worthToThrow, Cond.initialized RX5, Cond.code yX5_worthBehindThrow cX5_worthBehindThrow 10 (some .int), Cond.methodLink RX5 171 Lib.Math.max.name, Cond.static Lib.Math.max.name, Cond.initialized "java/lang/Math", Cond.code Lib.Math.max.name Lib.Math.max.code 2 (some .int), Cond.methodLink RX5 142 yX2_canMove, Cond.static yX2_canMove, Cond.code yX2_canMove cX2_canMove 7 (some .boolean), Cond.methodLink RX2 17 yX4_canEnter, Cond.static yX4_canEnter, Cond.code yX4_canEnter cX4_canEnter 3 (some .boolean), Cond.methodLink RX5 158 yX5_worthBehindMove, Cond.instanceMethod yX5_worthBehindMove, Cond.selects RX5 yX5_worthBehindMove yX5_worthBehindMove, Cond.code yX5_worthToThrow cX5_worthToThrow 10 (some .int), Cond.constantLong RX5 169 (16), Cond.methodLink RX5 162 yX5_worthAtOnce, Cond.instanceMethod yX5_worthAtOnce, Cond.selects RX5 yX5_worthAtOnce yX5_worthAtOnce, Cond.code yX5_worthAtOnce cX5_worthAtOnce 7 (some .int), Cond.fieldLink RX5 135 "RoyalUrTable" "piecesOfEach" "I", Cond.fieldLink RX5 22 "RoyalUrTable" "endings" "LRoyalUrTable$Endings;"]
def wsX5_worthBehindMove_r3 : List Cond := [Cond.constant RX5 179 (500000000), Cond.constant RX5 180 (4000000), Cond.constant RX5 181 (999999999), Cond.methodLink RX5 182 Lib.Math.min.name, Cond.static Lib.Math.min.name, Cond.code Lib.Math.min.name Lib.Math.min.code 2 (some .int), Cond.methodLink RX5 94 yX2_countAt, Cond.methodLink RX5 176 yX2_firstPlace, Cond.static yX2_firstPlace, Cond.code yX2_firstPlace cX2_firstPlace 3 (some .int), Cond.methodLink RX5 125 yX1_held, Cond.instanceMethod yX1_held, Cond.selects RX1 yX1_held yX1_held, Cond.initialized RX1, Cond.code yX1_held cX1_held 5 (some .int), Cond.constant RX1 31 (500000000), Cond.fieldLink RX1 13 "RoyalUrTable$Endings" "worths" "[I", Cond.methodLink RX5 166 yX0_timesIn16, Cond.static yX0_timesIn16, Cond.initialized RX0, Cond.code yX0_timesIn16 cX0_timesIn16 1 (some .int), Cond.fieldLink RX0 7 "RoyalUrTable$Dice" "TIMES_IN_16" "[I", Cond.methodLink RX5 154 yX5_worthBehindThrow, Cond.instanceMethod yX5_worthBehindThrow]
def wsX5_worthBehindMove_r4 : List Cond := [Cond.selects RX5 yX5_worthBehindThrow yX5_worthBehindThrow]
def wsX5_worthBehindMove : List Cond := .code yX5_worthBehindMove cX5_worthBehindMove 15 (some .int) :: ((wsX5_worthBehindMove_r1 ++ (wsX5_worthBehindMove_r2 ++ (wsX5_worthBehindMove_r3 ++ wsX5_worthBehindMove_r4))) ++ wsX50 ++ wsX10)
def wsX5_worthBehindThrow_r1 : List Cond := [Cond.methodLink RX5 171 Lib.Math.max.name, Cond.static Lib.Math.max.name, Cond.initialized "java/lang/Math", Cond.code Lib.Math.max.name Lib.Math.max.code 2 (some .int), Cond.constant RX5 105 (1000000000), Cond.methodLink RX5 142 yX2_canMove, Cond.static yX2_canMove, Cond.initialized RX2, Cond.code yX2_canMove cX2_canMove 7 (some .boolean), Cond.methodLink RX2 13 yX2_countAt, Cond.static yX2_countAt, Cond.code yX2_countAt cX2_countAt 3 (some .int), Cond.methodLink RX2 17 yX4_canEnter, Cond.static yX4_canEnter, Cond.initialized RX4, Cond.code yX4_canEnter cX4_canEnter 3 (some .boolean), Cond.methodLink RX5 158 yX5_worthBehindMove, Cond.instanceMethod yX5_worthBehindMove, Cond.selects RX5 yX5_worthBehindMove yX5_worthBehindMove, Cond.initialized RX5, Cond.methodLink RX5 150 yX5_worthToThrow, Cond.instanceMethod yX5_worthToThrow, Cond.selects RX5 yX5_worthToThrow yX5_worthToThrow, Cond.code yX5_worthBehindMove cX5_worthBehindMove 15 (some .int)]
def wsX5_worthBehindThrow_r2 : List Cond := [Cond.methodLink RX5 74 yX2_shifted, Cond.static yX2_shifted, Cond.code yX2_shifted cX2_shifted 4 (some .long), Cond.methodLink RX5 87 yX2_isAllHome, Cond.static yX2_isAllHome, Cond.code yX2_isAllHome cX2_isAllHome 2 (some .boolean), Cond.constantLong RX2 11 (1152921504606846975), Cond.methodLink RX5 80 yX2_canBeTaken, Cond.static yX2_canBeTaken, Cond.code yX2_canBeTaken cX2_canBeTaken 3 (some .boolean), Cond.methodLink RX2 21 yX4_isShared, Cond.static yX4_isShared, Cond.code yX4_isShared cX4_isShared 1 (some .boolean), Cond.methodLink RX5 91 yX4_isRosette, Cond.static yX4_isRosette, Cond.code yX4_isRosette cX4_isRosette 1 (some .boolean), Cond.code yX5_worthToThrow cX5_worthToThrow 10 (some .int), Cond.constantLong RX5 169 (16), Cond.methodLink RX5 162 yX5_worthAtOnce, Cond.instanceMethod yX5_worthAtOnce, Cond.selects RX5 yX5_worthAtOnce yX5_worthAtOnce, Cond.code yX5_worthAtOnce cX5_worthAtOnce 7 (some .int), Cond.fieldLink RX5 135 "RoyalUrTable" "piecesOfEach" "I", Cond.fieldLink RX5 22 "RoyalUrTable" "endings" "LRoyalUrTable$Endings;"]
def wsX5_worthBehindThrow_r3 : List Cond := [Cond.constant RX5 179 (500000000), Cond.constant RX5 180 (4000000), Cond.constant RX5 181 (999999999), Cond.methodLink RX5 182 Lib.Math.min.name, Cond.static Lib.Math.min.name, Cond.code Lib.Math.min.name Lib.Math.min.code 2 (some .int), Cond.methodLink RX5 94 yX2_countAt, Cond.methodLink RX5 176 yX2_firstPlace, Cond.static yX2_firstPlace, Cond.code yX2_firstPlace cX2_firstPlace 3 (some .int), Cond.methodLink RX5 125 yX1_held, Cond.instanceMethod yX1_held, Cond.selects RX1 yX1_held yX1_held, Cond.initialized RX1, Cond.code yX1_held cX1_held 5 (some .int), Cond.constant RX1 31 (500000000), Cond.fieldLink RX1 13 "RoyalUrTable$Endings" "worths" "[I", Cond.methodLink RX5 166 yX0_timesIn16, Cond.static yX0_timesIn16, Cond.initialized RX0, Cond.code yX0_timesIn16 cX0_timesIn16 1 (some .int), Cond.fieldLink RX0 7 "RoyalUrTable$Dice" "TIMES_IN_16" "[I", Cond.methodLink RX5 154 yX5_worthBehindThrow, Cond.instanceMethod yX5_worthBehindThrow]
def wsX5_worthBehindThrow_r4 : List Cond := [Cond.selects RX5 yX5_worthBehindThrow yX5_worthBehindThrow]
def wsX5_worthBehindThrow : List Cond := .code yX5_worthBehindThrow cX5_worthBehindThrow 10 (some .int) :: ((wsX5_worthBehindThrow_r1 ++ (wsX5_worthBehindThrow_r2 ++ (wsX5_worthBehindThrow_r3 ++ wsX5_worthBehindThrow_r4))) ++ wsX50 ++ wsX10)
def wsX5_worthToThrow_r1 : List Cond := [Cond.constantLong RX5 169 (16), Cond.methodLink RX5 162 yX5_worthAtOnce, Cond.instanceMethod yX5_worthAtOnce, Cond.selects RX5 yX5_worthAtOnce yX5_worthAtOnce, Cond.initialized RX5, Cond.code yX5_worthAtOnce cX5_worthAtOnce 7 (some .int), Cond.fieldLink RX5 135 "RoyalUrTable" "piecesOfEach" "I", Cond.fieldLink RX5 22 "RoyalUrTable" "endings" "LRoyalUrTable$Endings;", Cond.constant RX5 179 (500000000), Cond.constant RX5 180 (4000000), Cond.methodLink RX5 171 Lib.Math.max.name, Cond.static Lib.Math.max.name, Cond.initialized "java/lang/Math", Cond.code Lib.Math.max.name Lib.Math.max.code 2 (some .int), Cond.constant RX5 181 (999999999), Cond.methodLink RX5 182 Lib.Math.min.name, Cond.static Lib.Math.min.name, Cond.code Lib.Math.min.name Lib.Math.min.code 2 (some .int), Cond.methodLink RX5 94 yX2_countAt, Cond.static yX2_countAt, Cond.initialized RX2, Cond.code yX2_countAt cX2_countAt 3 (some .int), Cond.methodLink RX5 176 yX2_firstPlace, Cond.static yX2_firstPlace]
def wsX5_worthToThrow_r2 : List Cond := [Cond.code yX2_firstPlace cX2_firstPlace 3 (some .int), Cond.methodLink RX2 13 yX2_countAt, Cond.methodLink RX5 125 yX1_held, Cond.instanceMethod yX1_held, Cond.selects RX1 yX1_held yX1_held, Cond.initialized RX1, Cond.code yX1_held cX1_held 5 (some .int), Cond.constant RX1 31 (500000000), Cond.fieldLink RX1 13 "RoyalUrTable$Endings" "worths" "[I", Cond.methodLink RX5 166 yX0_timesIn16, Cond.static yX0_timesIn16, Cond.initialized RX0, Cond.code yX0_timesIn16 cX0_timesIn16 1 (some .int), Cond.fieldLink RX0 7 "RoyalUrTable$Dice" "TIMES_IN_16" "[I", Cond.methodLink RX5 154 yX5_worthBehindThrow, Cond.instanceMethod yX5_worthBehindThrow, Cond.selects RX5 yX5_worthBehindThrow yX5_worthBehindThrow, Cond.code yX5_worthBehindMove cX5_worthBehindMove 15 (some .int), Cond.constant RX5 105 (1000000000), Cond.methodLink RX5 74 yX2_shifted, Cond.static yX2_shifted, Cond.code yX2_shifted cX2_shifted 4 (some .long), Cond.methodLink RX5 87 yX2_isAllHome, Cond.static yX2_isAllHome]
def wsX5_worthToThrow_r3 : List Cond := [Cond.code yX2_isAllHome cX2_isAllHome 2 (some .boolean), Cond.constantLong RX2 11 (1152921504606846975), Cond.methodLink RX5 80 yX2_canBeTaken, Cond.static yX2_canBeTaken, Cond.code yX2_canBeTaken cX2_canBeTaken 3 (some .boolean), Cond.methodLink RX2 21 yX4_isShared, Cond.static yX4_isShared, Cond.initialized RX4, Cond.code yX4_isShared cX4_isShared 1 (some .boolean), Cond.methodLink RX5 91 yX4_isRosette, Cond.static yX4_isRosette, Cond.code yX4_isRosette cX4_isRosette 1 (some .boolean), Cond.methodLink RX5 150 yX5_worthToThrow, Cond.instanceMethod yX5_worthToThrow, Cond.selects RX5 yX5_worthToThrow yX5_worthToThrow, Cond.code yX5_worthBehindThrow cX5_worthBehindThrow 10 (some .int), Cond.methodLink RX5 142 yX2_canMove, Cond.static yX2_canMove, Cond.code yX2_canMove cX2_canMove 7 (some .boolean), Cond.methodLink RX2 17 yX4_canEnter, Cond.static yX4_canEnter, Cond.code yX4_canEnter cX4_canEnter 3 (some .boolean), Cond.methodLink RX5 158 yX5_worthBehindMove, Cond.instanceMethod yX5_worthBehindMove]
def wsX5_worthToThrow_r4 : List Cond := [Cond.selects RX5 yX5_worthBehindMove yX5_worthBehindMove]
def wsX5_worthToThrow : List Cond := .code yX5_worthToThrow cX5_worthToThrow 10 (some .int) :: ((wsX5_worthToThrow_r1 ++ (wsX5_worthToThrow_r2 ++ (wsX5_worthToThrow_r3 ++ wsX5_worthToThrow_r4))) ++ wsX50 ++ wsX10)
def wsX5_worthForTurn_r1 : List Cond := [Cond.fieldLink RX5 42 "RoyalUrTable" "winner" "I", Cond.fieldLink RX5 59 "RoyalUrTable" "turn" "I", Cond.constant RX5 105 (1000000000), Cond.fieldLink RX5 22 "RoyalUrTable" "endings" "LRoyalUrTable$Endings;", Cond.fieldLink RX5 70 "RoyalUrTable$Side" "layout" "J", Cond.fieldLink RX5 46 "RoyalUrTable" "marksTold" "I", Cond.methodLink RX5 122 yX1_fillUpTo, Cond.instanceMethod yX1_fillUpTo, Cond.selects RX1 yX1_fillUpTo yX1_fillUpTo, Cond.initialized RX1, Cond.code yX1_fillUpTo cX1_fillUpTo 4 none, Cond.methodLink RX1 17 Lib.Math.min.name, Cond.static Lib.Math.min.name, Cond.initialized "java/lang/Math", Cond.code Lib.Math.min.name Lib.Math.min.code 2 (some .int), Cond.fieldLink RX1 23 "RoyalUrTable$Endings" "roundsHeld" "I", Cond.methodLink RX1 27 yX1_fillRow, Cond.instanceMethod yX1_fillRow, Cond.selects RX1 yX1_fillRow yX1_fillRow, Cond.code yX1_fillRow cX1_fillRow 5 none, Cond.fieldLink RX1 13 "RoyalUrTable$Endings" "worths" "[I", Cond.methodLink RX1 32 yX1_worthToThrow, Cond.instanceMethod yX1_worthToThrow, Cond.selects RX1 yX1_worthToThrow yX1_worthToThrow]
def wsX5_worthForTurn_r2 : List Cond := [Cond.code yX1_worthToThrow cX1_worthToThrow 8 (some .int), Cond.constantLong RX1 50 (16), Cond.methodLink RX1 36 yX1_held, Cond.instanceMethod yX1_held, Cond.selects RX1 yX1_held yX1_held, Cond.code yX1_held cX1_held 5 (some .int), Cond.constant RX1 31 (500000000), Cond.methodLink RX1 42 yX0_timesIn16, Cond.static yX0_timesIn16, Cond.initialized RX0, Cond.code yX0_timesIn16 cX0_timesIn16 1 (some .int), Cond.fieldLink RX0 7 "RoyalUrTable$Dice" "TIMES_IN_16" "[I", Cond.methodLink RX1 46 yX1_worthBehindThrow, Cond.instanceMethod yX1_worthBehindThrow, Cond.selects RX1 yX1_worthBehindThrow yX1_worthBehindThrow, Cond.code yX1_worthBehindThrow cX1_worthBehindThrow 8 (some .int), Cond.constant RX1 56 (1000000000), Cond.methodLink RX1 52 yX4_canEnter, Cond.static yX4_canEnter, Cond.initialized RX4, Cond.code yX4_canEnter cX4_canEnter 3 (some .boolean), Cond.methodLink RX1 57 yX4_isShared, Cond.static yX4_isShared, Cond.code yX4_isShared cX4_isShared 1 (some .boolean)]
def wsX5_worthForTurn_r3 : List Cond := [Cond.methodLink RX1 61 yX4_isRosette, Cond.static yX4_isRosette, Cond.code yX4_isRosette cX4_isRosette 1 (some .boolean), Cond.methodLink RX5 66 yX5_sideOf, Cond.instanceMethod yX5_sideOf, Cond.selects RX5 yX5_sideOf yX5_sideOf, Cond.initialized RX5, Cond.code yX5_sideOf cX5_sideOf 2 (some (.object "RoyalUrTable$Side")), Cond.fieldLink RX5 10 "RoyalUrTable" "side0" "LRoyalUrTable$Side;", Cond.fieldLink RX5 16 "RoyalUrTable" "side1" "LRoyalUrTable$Side;", Cond.methodLink RX5 146 yX5_leadOfTurn, Cond.instanceMethod yX5_leadOfTurn, Cond.selects RX5 yX5_leadOfTurn yX5_leadOfTurn, Cond.code yX5_leadOfTurn cX5_leadOfTurn 1 (some .int), Cond.methodLink RX5 98 yX2_sumOfPlaces, Cond.static yX2_sumOfPlaces, Cond.initialized RX2, Cond.code yX2_sumOfPlaces cX2_sumOfPlaces 4 (some .int), Cond.methodLink RX2 13 yX2_countAt, Cond.static yX2_countAt, Cond.code yX2_countAt cX2_countAt 3 (some .int), Cond.methodLink RX5 150 yX5_worthToThrow, Cond.instanceMethod yX5_worthToThrow, Cond.selects RX5 yX5_worthToThrow yX5_worthToThrow]
def wsX5_worthForTurn_r4 : List Cond := [Cond.code yX5_worthToThrow cX5_worthToThrow 10 (some .int), Cond.constantLong RX5 169 (16), Cond.methodLink RX5 162 yX5_worthAtOnce, Cond.instanceMethod yX5_worthAtOnce, Cond.selects RX5 yX5_worthAtOnce yX5_worthAtOnce, Cond.code yX5_worthAtOnce cX5_worthAtOnce 7 (some .int), Cond.fieldLink RX5 135 "RoyalUrTable" "piecesOfEach" "I", Cond.constant RX5 179 (500000000), Cond.constant RX5 180 (4000000), Cond.methodLink RX5 171 Lib.Math.max.name, Cond.static Lib.Math.max.name, Cond.code Lib.Math.max.name Lib.Math.max.code 2 (some .int), Cond.constant RX5 181 (999999999), Cond.methodLink RX5 182 Lib.Math.min.name, Cond.methodLink RX5 94 yX2_countAt, Cond.methodLink RX5 176 yX2_firstPlace, Cond.static yX2_firstPlace, Cond.code yX2_firstPlace cX2_firstPlace 3 (some .int), Cond.methodLink RX5 125 yX1_held, Cond.methodLink RX5 166 yX0_timesIn16, Cond.methodLink RX5 154 yX5_worthBehindThrow, Cond.instanceMethod yX5_worthBehindThrow, Cond.selects RX5 yX5_worthBehindThrow yX5_worthBehindThrow, Cond.code yX5_worthBehindMove cX5_worthBehindMove 15 (some .int)]
def wsX5_worthForTurn_r5 : List Cond := [Cond.methodLink RX5 74 yX2_shifted, Cond.static yX2_shifted, Cond.code yX2_shifted cX2_shifted 4 (some .long), Cond.methodLink RX5 87 yX2_isAllHome, Cond.static yX2_isAllHome, Cond.code yX2_isAllHome cX2_isAllHome 2 (some .boolean), Cond.constantLong RX2 11 (1152921504606846975), Cond.methodLink RX5 80 yX2_canBeTaken, Cond.static yX2_canBeTaken, Cond.code yX2_canBeTaken cX2_canBeTaken 3 (some .boolean), Cond.methodLink RX2 21 yX4_isShared, Cond.methodLink RX5 91 yX4_isRosette, Cond.code yX5_worthBehindThrow cX5_worthBehindThrow 10 (some .int), Cond.methodLink RX5 142 yX2_canMove, Cond.static yX2_canMove, Cond.code yX2_canMove cX2_canMove 7 (some .boolean), Cond.methodLink RX2 17 yX4_canEnter, Cond.methodLink RX5 158 yX5_worthBehindMove, Cond.instanceMethod yX5_worthBehindMove, Cond.selects RX5 yX5_worthBehindMove yX5_worthBehindMove]
def wsX5_worthForTurn : List Cond := .code yX5_worthForTurn cX5_worthForTurn 6 (some .int) :: ((wsX5_worthForTurn_r1 ++ (wsX5_worthForTurn_r2 ++ (wsX5_worthForTurn_r3 ++ (wsX5_worthForTurn_r4 ++ wsX5_worthForTurn_r5)))) ++ wsX50 ++ wsX30 ++ wsX10)
def wsX5_worth_r1 : List Cond := [Cond.fieldLink RX5 59 "RoyalUrTable" "turn" "I", Cond.constant RX5 105 (1000000000), Cond.methodLink RX5 36 yX5_refuseOutside, Cond.static yX5_refuseOutside, Cond.initialized RX5, Cond.code yX5_refuseOutside cX5_refuseOutside 3 none, Cond.classLink RX5 108 "java/lang/IllegalArgumentException", Cond.initialized "java/lang/IllegalArgumentException", Cond.methodLink RX5 102 yX5_worthForTurn, Cond.instanceMethod yX5_worthForTurn, Cond.selects RX5 yX5_worthForTurn yX5_worthForTurn, Cond.code yX5_worthForTurn cX5_worthForTurn 6 (some .int), Cond.fieldLink RX5 42 "RoyalUrTable" "winner" "I", Cond.fieldLink RX5 22 "RoyalUrTable" "endings" "LRoyalUrTable$Endings;", Cond.fieldLink RX5 70 "RoyalUrTable$Side" "layout" "J", Cond.fieldLink RX5 46 "RoyalUrTable" "marksTold" "I", Cond.methodLink RX5 122 yX1_fillUpTo, Cond.instanceMethod yX1_fillUpTo, Cond.selects RX1 yX1_fillUpTo yX1_fillUpTo, Cond.initialized RX1, Cond.code yX1_fillUpTo cX1_fillUpTo 4 none, Cond.methodLink RX1 17 Lib.Math.min.name, Cond.static Lib.Math.min.name, Cond.initialized "java/lang/Math"]
def wsX5_worth_r2 : List Cond := [Cond.code Lib.Math.min.name Lib.Math.min.code 2 (some .int), Cond.fieldLink RX1 23 "RoyalUrTable$Endings" "roundsHeld" "I", Cond.methodLink RX1 27 yX1_fillRow, Cond.instanceMethod yX1_fillRow, Cond.selects RX1 yX1_fillRow yX1_fillRow, Cond.code yX1_fillRow cX1_fillRow 5 none, Cond.fieldLink RX1 13 "RoyalUrTable$Endings" "worths" "[I", Cond.methodLink RX1 32 yX1_worthToThrow, Cond.instanceMethod yX1_worthToThrow, Cond.selects RX1 yX1_worthToThrow yX1_worthToThrow, Cond.code yX1_worthToThrow cX1_worthToThrow 8 (some .int), Cond.constantLong RX1 50 (16), Cond.methodLink RX1 36 yX1_held, Cond.instanceMethod yX1_held, Cond.selects RX1 yX1_held yX1_held, Cond.code yX1_held cX1_held 5 (some .int), Cond.constant RX1 31 (500000000), Cond.methodLink RX1 42 yX0_timesIn16, Cond.static yX0_timesIn16, Cond.initialized RX0, Cond.code yX0_timesIn16 cX0_timesIn16 1 (some .int), Cond.fieldLink RX0 7 "RoyalUrTable$Dice" "TIMES_IN_16" "[I", Cond.methodLink RX1 46 yX1_worthBehindThrow, Cond.instanceMethod yX1_worthBehindThrow]
def wsX5_worth_r3 : List Cond := [Cond.selects RX1 yX1_worthBehindThrow yX1_worthBehindThrow, Cond.code yX1_worthBehindThrow cX1_worthBehindThrow 8 (some .int), Cond.constant RX1 56 (1000000000), Cond.methodLink RX1 52 yX4_canEnter, Cond.static yX4_canEnter, Cond.initialized RX4, Cond.code yX4_canEnter cX4_canEnter 3 (some .boolean), Cond.methodLink RX1 57 yX4_isShared, Cond.static yX4_isShared, Cond.code yX4_isShared cX4_isShared 1 (some .boolean), Cond.methodLink RX1 61 yX4_isRosette, Cond.static yX4_isRosette, Cond.code yX4_isRosette cX4_isRosette 1 (some .boolean), Cond.methodLink RX5 66 yX5_sideOf, Cond.instanceMethod yX5_sideOf, Cond.selects RX5 yX5_sideOf yX5_sideOf, Cond.code yX5_sideOf cX5_sideOf 2 (some (.object "RoyalUrTable$Side")), Cond.fieldLink RX5 10 "RoyalUrTable" "side0" "LRoyalUrTable$Side;", Cond.fieldLink RX5 16 "RoyalUrTable" "side1" "LRoyalUrTable$Side;", Cond.methodLink RX5 146 yX5_leadOfTurn, Cond.instanceMethod yX5_leadOfTurn, Cond.selects RX5 yX5_leadOfTurn yX5_leadOfTurn, Cond.code yX5_leadOfTurn cX5_leadOfTurn 1 (some .int), Cond.methodLink RX5 98 yX2_sumOfPlaces]
def wsX5_worth_r4 : List Cond := [Cond.static yX2_sumOfPlaces, Cond.initialized RX2, Cond.code yX2_sumOfPlaces cX2_sumOfPlaces 4 (some .int), Cond.methodLink RX2 13 yX2_countAt, Cond.static yX2_countAt, Cond.code yX2_countAt cX2_countAt 3 (some .int), Cond.methodLink RX5 150 yX5_worthToThrow, Cond.instanceMethod yX5_worthToThrow, Cond.selects RX5 yX5_worthToThrow yX5_worthToThrow, Cond.code yX5_worthToThrow cX5_worthToThrow 10 (some .int), Cond.constantLong RX5 169 (16), Cond.methodLink RX5 162 yX5_worthAtOnce, Cond.instanceMethod yX5_worthAtOnce, Cond.selects RX5 yX5_worthAtOnce yX5_worthAtOnce, Cond.code yX5_worthAtOnce cX5_worthAtOnce 7 (some .int), Cond.fieldLink RX5 135 "RoyalUrTable" "piecesOfEach" "I", Cond.constant RX5 179 (500000000), Cond.constant RX5 180 (4000000), Cond.methodLink RX5 171 Lib.Math.max.name, Cond.static Lib.Math.max.name, Cond.code Lib.Math.max.name Lib.Math.max.code 2 (some .int), Cond.constant RX5 181 (999999999), Cond.methodLink RX5 182 Lib.Math.min.name, Cond.methodLink RX5 94 yX2_countAt]
def wsX5_worth_r5 : List Cond := [Cond.methodLink RX5 176 yX2_firstPlace, Cond.static yX2_firstPlace, Cond.code yX2_firstPlace cX2_firstPlace 3 (some .int), Cond.methodLink RX5 125 yX1_held, Cond.methodLink RX5 166 yX0_timesIn16, Cond.methodLink RX5 154 yX5_worthBehindThrow, Cond.instanceMethod yX5_worthBehindThrow, Cond.selects RX5 yX5_worthBehindThrow yX5_worthBehindThrow, Cond.code yX5_worthBehindMove cX5_worthBehindMove 15 (some .int), Cond.methodLink RX5 74 yX2_shifted, Cond.static yX2_shifted, Cond.code yX2_shifted cX2_shifted 4 (some .long), Cond.methodLink RX5 87 yX2_isAllHome, Cond.static yX2_isAllHome, Cond.code yX2_isAllHome cX2_isAllHome 2 (some .boolean), Cond.constantLong RX2 11 (1152921504606846975), Cond.methodLink RX5 80 yX2_canBeTaken, Cond.static yX2_canBeTaken, Cond.code yX2_canBeTaken cX2_canBeTaken 3 (some .boolean), Cond.methodLink RX2 21 yX4_isShared, Cond.methodLink RX5 91 yX4_isRosette, Cond.code yX5_worthBehindThrow cX5_worthBehindThrow 10 (some .int), Cond.methodLink RX5 142 yX2_canMove, Cond.static yX2_canMove]
def wsX5_worth_r6 : List Cond := [Cond.code yX2_canMove cX2_canMove 7 (some .boolean), Cond.methodLink RX2 17 yX4_canEnter, Cond.methodLink RX5 158 yX5_worthBehindMove, Cond.instanceMethod yX5_worthBehindMove, Cond.selects RX5 yX5_worthBehindMove yX5_worthBehindMove]
def wsX5_worth : List Cond := .code yX5_worth cX5_worth 3 (some .int) :: ((wsX5_worth_r1 ++ (wsX5_worth_r2 ++ (wsX5_worth_r3 ++ (wsX5_worth_r4 ++ (wsX5_worth_r5 ++ wsX5_worth_r6))))) ++ wsX50 ++ wsX30 ++ wsX10 ++ (vx_at0 RX5 110 "java/lang/IllegalArgumentException" ["java/lang/RuntimeException", "java/lang/Exception"]).filter goodWord)
def wsX5_chance_r1 : List Cond := [Cond.constantDouble RX5 106 (4741671816366391296), Cond.methodLink RX5 36 yX5_refuseOutside, Cond.static yX5_refuseOutside, Cond.initialized RX5, Cond.code yX5_refuseOutside cX5_refuseOutside 3 none, Cond.classLink RX5 108 "java/lang/IllegalArgumentException", Cond.initialized "java/lang/IllegalArgumentException", Cond.methodLink RX5 102 yX5_worthForTurn, Cond.instanceMethod yX5_worthForTurn, Cond.selects RX5 yX5_worthForTurn yX5_worthForTurn, Cond.code yX5_worthForTurn cX5_worthForTurn 6 (some .int), Cond.fieldLink RX5 42 "RoyalUrTable" "winner" "I", Cond.fieldLink RX5 59 "RoyalUrTable" "turn" "I", Cond.constant RX5 105 (1000000000), Cond.fieldLink RX5 22 "RoyalUrTable" "endings" "LRoyalUrTable$Endings;", Cond.fieldLink RX5 70 "RoyalUrTable$Side" "layout" "J", Cond.fieldLink RX5 46 "RoyalUrTable" "marksTold" "I", Cond.methodLink RX5 122 yX1_fillUpTo, Cond.instanceMethod yX1_fillUpTo, Cond.selects RX1 yX1_fillUpTo yX1_fillUpTo, Cond.initialized RX1, Cond.code yX1_fillUpTo cX1_fillUpTo 4 none, Cond.methodLink RX1 17 Lib.Math.min.name, Cond.static Lib.Math.min.name]
def wsX5_chance_r2 : List Cond := [Cond.initialized "java/lang/Math", Cond.code Lib.Math.min.name Lib.Math.min.code 2 (some .int), Cond.fieldLink RX1 23 "RoyalUrTable$Endings" "roundsHeld" "I", Cond.methodLink RX1 27 yX1_fillRow, Cond.instanceMethod yX1_fillRow, Cond.selects RX1 yX1_fillRow yX1_fillRow, Cond.code yX1_fillRow cX1_fillRow 5 none, Cond.fieldLink RX1 13 "RoyalUrTable$Endings" "worths" "[I", Cond.methodLink RX1 32 yX1_worthToThrow, Cond.instanceMethod yX1_worthToThrow, Cond.selects RX1 yX1_worthToThrow yX1_worthToThrow, Cond.code yX1_worthToThrow cX1_worthToThrow 8 (some .int), Cond.constantLong RX1 50 (16), Cond.methodLink RX1 36 yX1_held, Cond.instanceMethod yX1_held, Cond.selects RX1 yX1_held yX1_held, Cond.code yX1_held cX1_held 5 (some .int), Cond.constant RX1 31 (500000000), Cond.methodLink RX1 42 yX0_timesIn16, Cond.static yX0_timesIn16, Cond.initialized RX0, Cond.code yX0_timesIn16 cX0_timesIn16 1 (some .int), Cond.fieldLink RX0 7 "RoyalUrTable$Dice" "TIMES_IN_16" "[I", Cond.methodLink RX1 46 yX1_worthBehindThrow]
def wsX5_chance_r3 : List Cond := [Cond.instanceMethod yX1_worthBehindThrow, Cond.selects RX1 yX1_worthBehindThrow yX1_worthBehindThrow, Cond.code yX1_worthBehindThrow cX1_worthBehindThrow 8 (some .int), Cond.constant RX1 56 (1000000000), Cond.methodLink RX1 52 yX4_canEnter, Cond.static yX4_canEnter, Cond.initialized RX4, Cond.code yX4_canEnter cX4_canEnter 3 (some .boolean), Cond.methodLink RX1 57 yX4_isShared, Cond.static yX4_isShared, Cond.code yX4_isShared cX4_isShared 1 (some .boolean), Cond.methodLink RX1 61 yX4_isRosette, Cond.static yX4_isRosette, Cond.code yX4_isRosette cX4_isRosette 1 (some .boolean), Cond.methodLink RX5 66 yX5_sideOf, Cond.instanceMethod yX5_sideOf, Cond.selects RX5 yX5_sideOf yX5_sideOf, Cond.code yX5_sideOf cX5_sideOf 2 (some (.object "RoyalUrTable$Side")), Cond.fieldLink RX5 10 "RoyalUrTable" "side0" "LRoyalUrTable$Side;", Cond.fieldLink RX5 16 "RoyalUrTable" "side1" "LRoyalUrTable$Side;", Cond.methodLink RX5 146 yX5_leadOfTurn, Cond.instanceMethod yX5_leadOfTurn, Cond.selects RX5 yX5_leadOfTurn yX5_leadOfTurn, Cond.code yX5_leadOfTurn cX5_leadOfTurn 1 (some .int)]
def wsX5_chance_r4 : List Cond := [Cond.methodLink RX5 98 yX2_sumOfPlaces, Cond.static yX2_sumOfPlaces, Cond.initialized RX2, Cond.code yX2_sumOfPlaces cX2_sumOfPlaces 4 (some .int), Cond.methodLink RX2 13 yX2_countAt, Cond.static yX2_countAt, Cond.code yX2_countAt cX2_countAt 3 (some .int), Cond.methodLink RX5 150 yX5_worthToThrow, Cond.instanceMethod yX5_worthToThrow, Cond.selects RX5 yX5_worthToThrow yX5_worthToThrow, Cond.code yX5_worthToThrow cX5_worthToThrow 10 (some .int), Cond.constantLong RX5 169 (16), Cond.methodLink RX5 162 yX5_worthAtOnce, Cond.instanceMethod yX5_worthAtOnce, Cond.selects RX5 yX5_worthAtOnce yX5_worthAtOnce, Cond.code yX5_worthAtOnce cX5_worthAtOnce 7 (some .int), Cond.fieldLink RX5 135 "RoyalUrTable" "piecesOfEach" "I", Cond.constant RX5 179 (500000000), Cond.constant RX5 180 (4000000), Cond.methodLink RX5 171 Lib.Math.max.name, Cond.static Lib.Math.max.name, Cond.code Lib.Math.max.name Lib.Math.max.code 2 (some .int), Cond.constant RX5 181 (999999999), Cond.methodLink RX5 182 Lib.Math.min.name]
def wsX5_chance_r5 : List Cond := [Cond.methodLink RX5 94 yX2_countAt, Cond.methodLink RX5 176 yX2_firstPlace, Cond.static yX2_firstPlace, Cond.code yX2_firstPlace cX2_firstPlace 3 (some .int), Cond.methodLink RX5 125 yX1_held, Cond.methodLink RX5 166 yX0_timesIn16, Cond.methodLink RX5 154 yX5_worthBehindThrow, Cond.instanceMethod yX5_worthBehindThrow, Cond.selects RX5 yX5_worthBehindThrow yX5_worthBehindThrow, Cond.code yX5_worthBehindMove cX5_worthBehindMove 15 (some .int), Cond.methodLink RX5 74 yX2_shifted, Cond.static yX2_shifted, Cond.code yX2_shifted cX2_shifted 4 (some .long), Cond.methodLink RX5 87 yX2_isAllHome, Cond.static yX2_isAllHome, Cond.code yX2_isAllHome cX2_isAllHome 2 (some .boolean), Cond.constantLong RX2 11 (1152921504606846975), Cond.methodLink RX5 80 yX2_canBeTaken, Cond.static yX2_canBeTaken, Cond.code yX2_canBeTaken cX2_canBeTaken 3 (some .boolean), Cond.methodLink RX2 21 yX4_isShared, Cond.methodLink RX5 91 yX4_isRosette, Cond.code yX5_worthBehindThrow cX5_worthBehindThrow 10 (some .int), Cond.methodLink RX5 142 yX2_canMove]
def wsX5_chance_r6 : List Cond := [Cond.static yX2_canMove, Cond.code yX2_canMove cX2_canMove 7 (some .boolean), Cond.methodLink RX2 17 yX4_canEnter, Cond.methodLink RX5 158 yX5_worthBehindMove, Cond.instanceMethod yX5_worthBehindMove, Cond.selects RX5 yX5_worthBehindMove yX5_worthBehindMove]
def wsX5_chance : List Cond := .code yX5_chance cX5_chance 2 (some .double) :: ((wsX5_chance_r1 ++ (wsX5_chance_r2 ++ (wsX5_chance_r3 ++ (wsX5_chance_r4 ++ (wsX5_chance_r5 ++ wsX5_chance_r6))))) ++ wsX50 ++ wsX30 ++ wsX10 ++ (vx_at0 RX5 110 "java/lang/IllegalArgumentException" ["java/lang/RuntimeException", "java/lang/Exception"]).filter goodWord)
def wsX5_noteWorthsBehind_r1 : List Cond := [Cond.fieldLink RX5 22 "RoyalUrTable" "endings" "LRoyalUrTable$Endings;", Cond.fieldLink RX5 59 "RoyalUrTable" "turn" "I", Cond.fieldLink RX5 70 "RoyalUrTable$Side" "layout" "J", Cond.fieldLink RX5 28 "RoyalUrTable" "worthsBehind" "[I", Cond.fieldLink RX5 46 "RoyalUrTable" "marksTold" "I", Cond.methodLink RX5 122 yX1_fillUpTo, Cond.instanceMethod yX1_fillUpTo, Cond.selects RX1 yX1_fillUpTo yX1_fillUpTo, Cond.initialized RX1, Cond.code yX1_fillUpTo cX1_fillUpTo 4 none, Cond.methodLink RX1 17 Lib.Math.min.name, Cond.static Lib.Math.min.name, Cond.initialized "java/lang/Math", Cond.code Lib.Math.min.name Lib.Math.min.code 2 (some .int), Cond.fieldLink RX1 23 "RoyalUrTable$Endings" "roundsHeld" "I", Cond.methodLink RX1 27 yX1_fillRow, Cond.instanceMethod yX1_fillRow, Cond.selects RX1 yX1_fillRow yX1_fillRow, Cond.code yX1_fillRow cX1_fillRow 5 none, Cond.fieldLink RX1 13 "RoyalUrTable$Endings" "worths" "[I", Cond.methodLink RX1 32 yX1_worthToThrow, Cond.instanceMethod yX1_worthToThrow, Cond.selects RX1 yX1_worthToThrow yX1_worthToThrow, Cond.code yX1_worthToThrow cX1_worthToThrow 8 (some .int)]
def wsX5_noteWorthsBehind_r2 : List Cond := [Cond.constantLong RX1 50 (16), Cond.methodLink RX1 36 yX1_held, Cond.instanceMethod yX1_held, Cond.selects RX1 yX1_held yX1_held, Cond.code yX1_held cX1_held 5 (some .int), Cond.constant RX1 31 (500000000), Cond.methodLink RX1 42 yX0_timesIn16, Cond.static yX0_timesIn16, Cond.initialized RX0, Cond.code yX0_timesIn16 cX0_timesIn16 1 (some .int), Cond.fieldLink RX0 7 "RoyalUrTable$Dice" "TIMES_IN_16" "[I", Cond.methodLink RX1 46 yX1_worthBehindThrow, Cond.instanceMethod yX1_worthBehindThrow, Cond.selects RX1 yX1_worthBehindThrow yX1_worthBehindThrow, Cond.code yX1_worthBehindThrow cX1_worthBehindThrow 8 (some .int), Cond.constant RX1 56 (1000000000), Cond.methodLink RX1 52 yX4_canEnter, Cond.static yX4_canEnter, Cond.initialized RX4, Cond.code yX4_canEnter cX4_canEnter 3 (some .boolean), Cond.methodLink RX1 57 yX4_isShared, Cond.static yX4_isShared, Cond.code yX4_isShared cX4_isShared 1 (some .boolean), Cond.methodLink RX1 61 yX4_isRosette]
def wsX5_noteWorthsBehind_r3 : List Cond := [Cond.static yX4_isRosette, Cond.code yX4_isRosette cX4_isRosette 1 (some .boolean), Cond.methodLink RX5 66 yX5_sideOf, Cond.instanceMethod yX5_sideOf, Cond.selects RX5 yX5_sideOf yX5_sideOf, Cond.initialized RX5, Cond.code yX5_sideOf cX5_sideOf 2 (some (.object "RoyalUrTable$Side")), Cond.fieldLink RX5 10 "RoyalUrTable" "side0" "LRoyalUrTable$Side;", Cond.fieldLink RX5 16 "RoyalUrTable" "side1" "LRoyalUrTable$Side;", Cond.methodLink RX5 146 yX5_leadOfTurn, Cond.instanceMethod yX5_leadOfTurn, Cond.selects RX5 yX5_leadOfTurn yX5_leadOfTurn, Cond.code yX5_leadOfTurn cX5_leadOfTurn 1 (some .int), Cond.methodLink RX5 98 yX2_sumOfPlaces, Cond.static yX2_sumOfPlaces, Cond.initialized RX2, Cond.code yX2_sumOfPlaces cX2_sumOfPlaces 4 (some .int), Cond.methodLink RX2 13 yX2_countAt, Cond.static yX2_countAt, Cond.code yX2_countAt cX2_countAt 3 (some .int), Cond.methodLink RX5 142 yX2_canMove, Cond.static yX2_canMove, Cond.code yX2_canMove cX2_canMove 7 (some .boolean), Cond.methodLink RX2 17 yX4_canEnter]
def wsX5_noteWorthsBehind_r4 : List Cond := [Cond.methodLink RX5 158 yX5_worthBehindMove, Cond.instanceMethod yX5_worthBehindMove, Cond.selects RX5 yX5_worthBehindMove yX5_worthBehindMove, Cond.code yX5_worthBehindMove cX5_worthBehindMove 15 (some .int), Cond.constant RX5 105 (1000000000), Cond.methodLink RX5 74 yX2_shifted, Cond.static yX2_shifted, Cond.code yX2_shifted cX2_shifted 4 (some .long), Cond.methodLink RX5 87 yX2_isAllHome, Cond.static yX2_isAllHome, Cond.code yX2_isAllHome cX2_isAllHome 2 (some .boolean), Cond.constantLong RX2 11 (1152921504606846975), Cond.methodLink RX5 80 yX2_canBeTaken, Cond.static yX2_canBeTaken, Cond.code yX2_canBeTaken cX2_canBeTaken 3 (some .boolean), Cond.methodLink RX2 21 yX4_isShared, Cond.methodLink RX5 91 yX4_isRosette, Cond.methodLink RX5 150 yX5_worthToThrow, Cond.instanceMethod yX5_worthToThrow, Cond.selects RX5 yX5_worthToThrow yX5_worthToThrow, Cond.code yX5_worthBehindThrow cX5_worthBehindThrow 10 (some .int), Cond.methodLink RX5 171 Lib.Math.max.name, Cond.static Lib.Math.max.name, Cond.code Lib.Math.max.name Lib.Math.max.code 2 (some .int)]
def wsX5_noteWorthsBehind_r5 : List Cond := [Cond.code yX5_worthToThrow cX5_worthToThrow 10 (some .int), Cond.constantLong RX5 169 (16), Cond.methodLink RX5 162 yX5_worthAtOnce, Cond.instanceMethod yX5_worthAtOnce, Cond.selects RX5 yX5_worthAtOnce yX5_worthAtOnce, Cond.code yX5_worthAtOnce cX5_worthAtOnce 7 (some .int), Cond.fieldLink RX5 135 "RoyalUrTable" "piecesOfEach" "I", Cond.constant RX5 179 (500000000), Cond.constant RX5 180 (4000000), Cond.constant RX5 181 (999999999), Cond.methodLink RX5 182 Lib.Math.min.name, Cond.methodLink RX5 94 yX2_countAt, Cond.methodLink RX5 176 yX2_firstPlace, Cond.static yX2_firstPlace, Cond.code yX2_firstPlace cX2_firstPlace 3 (some .int), Cond.methodLink RX5 125 yX1_held, Cond.methodLink RX5 166 yX0_timesIn16, Cond.methodLink RX5 154 yX5_worthBehindThrow, Cond.instanceMethod yX5_worthBehindThrow, Cond.selects RX5 yX5_worthBehindThrow yX5_worthBehindThrow]
def wsX5_noteWorthsBehind : List Cond := .code yX5_noteWorthsBehind cX5_noteWorthsBehind 8 none :: ((wsX5_noteWorthsBehind_r1 ++ (wsX5_noteWorthsBehind_r2 ++ (wsX5_noteWorthsBehind_r3 ++ (wsX5_noteWorthsBehind_r4 ++ wsX5_noteWorthsBehind_r5)))) ++ wsX50 ++ wsX30 ++ wsX10)
def wsX5_countBetter : List Cond := .code yX5_countBetter cX5_countBetter 5 (some .int) :: ([.fieldLink RX5 28 "RoyalUrTable" "worthsBehind" "[I"] ++ wsX50)
def wsX5_ranked_r1 : List Cond := [Cond.classLink RX5 108 "java/lang/IllegalArgumentException", Cond.initialized "java/lang/IllegalArgumentException", Cond.fieldLink RX5 46 "RoyalUrTable" "marksTold" "I", Cond.fieldLink RX5 28 "RoyalUrTable" "worthsBehind" "[I", Cond.methodLink RX5 36 yX5_refuseOutside, Cond.static yX5_refuseOutside, Cond.initialized RX5, Cond.code yX5_refuseOutside cX5_refuseOutside 3 none, Cond.methodLink RX5 55 yX5_countMoves, Cond.instanceMethod yX5_countMoves, Cond.selects RX5 yX5_countMoves yX5_countMoves, Cond.code yX5_countMoves cX5_countMoves 8 (some .int), Cond.fieldLink RX5 59 "RoyalUrTable" "turn" "I", Cond.fieldLink RX5 70 "RoyalUrTable$Side" "layout" "J", Cond.methodLink RX5 66 yX5_sideOf, Cond.instanceMethod yX5_sideOf, Cond.selects RX5 yX5_sideOf yX5_sideOf, Cond.code yX5_sideOf cX5_sideOf 2 (some (.object "RoyalUrTable$Side")), Cond.fieldLink RX5 10 "RoyalUrTable" "side0" "LRoyalUrTable$Side;", Cond.fieldLink RX5 16 "RoyalUrTable" "side1" "LRoyalUrTable$Side;", Cond.methodLink RX5 142 yX2_canMove, Cond.static yX2_canMove, Cond.initialized RX2, Cond.code yX2_canMove cX2_canMove 7 (some .boolean)]
def wsX5_ranked_r2 : List Cond := [Cond.methodLink RX2 13 yX2_countAt, Cond.static yX2_countAt, Cond.code yX2_countAt cX2_countAt 3 (some .int), Cond.methodLink RX2 17 yX4_canEnter, Cond.static yX4_canEnter, Cond.initialized RX4, Cond.code yX4_canEnter cX4_canEnter 3 (some .boolean), Cond.methodLink RX5 111 yX5_noteWorthsBehind, Cond.instanceMethod yX5_noteWorthsBehind, Cond.selects RX5 yX5_noteWorthsBehind yX5_noteWorthsBehind, Cond.code yX5_noteWorthsBehind cX5_noteWorthsBehind 8 none, Cond.fieldLink RX5 22 "RoyalUrTable" "endings" "LRoyalUrTable$Endings;", Cond.methodLink RX5 122 yX1_fillUpTo, Cond.instanceMethod yX1_fillUpTo, Cond.selects RX1 yX1_fillUpTo yX1_fillUpTo, Cond.initialized RX1, Cond.code yX1_fillUpTo cX1_fillUpTo 4 none, Cond.methodLink RX1 17 Lib.Math.min.name, Cond.static Lib.Math.min.name, Cond.initialized "java/lang/Math", Cond.code Lib.Math.min.name Lib.Math.min.code 2 (some .int), Cond.fieldLink RX1 23 "RoyalUrTable$Endings" "roundsHeld" "I", Cond.methodLink RX1 27 yX1_fillRow, Cond.instanceMethod yX1_fillRow]
def wsX5_ranked_r3 : List Cond := [Cond.selects RX1 yX1_fillRow yX1_fillRow, Cond.code yX1_fillRow cX1_fillRow 5 none, Cond.fieldLink RX1 13 "RoyalUrTable$Endings" "worths" "[I", Cond.methodLink RX1 32 yX1_worthToThrow, Cond.instanceMethod yX1_worthToThrow, Cond.selects RX1 yX1_worthToThrow yX1_worthToThrow, Cond.code yX1_worthToThrow cX1_worthToThrow 8 (some .int), Cond.constantLong RX1 50 (16), Cond.methodLink RX1 36 yX1_held, Cond.instanceMethod yX1_held, Cond.selects RX1 yX1_held yX1_held, Cond.code yX1_held cX1_held 5 (some .int), Cond.constant RX1 31 (500000000), Cond.methodLink RX1 42 yX0_timesIn16, Cond.static yX0_timesIn16, Cond.initialized RX0, Cond.code yX0_timesIn16 cX0_timesIn16 1 (some .int), Cond.fieldLink RX0 7 "RoyalUrTable$Dice" "TIMES_IN_16" "[I", Cond.methodLink RX1 46 yX1_worthBehindThrow, Cond.instanceMethod yX1_worthBehindThrow, Cond.selects RX1 yX1_worthBehindThrow yX1_worthBehindThrow, Cond.code yX1_worthBehindThrow cX1_worthBehindThrow 8 (some .int), Cond.constant RX1 56 (1000000000), Cond.methodLink RX1 52 yX4_canEnter]
def wsX5_ranked_r4 : List Cond := [Cond.methodLink RX1 57 yX4_isShared, Cond.static yX4_isShared, Cond.code yX4_isShared cX4_isShared 1 (some .boolean), Cond.methodLink RX1 61 yX4_isRosette, Cond.static yX4_isRosette, Cond.code yX4_isRosette cX4_isRosette 1 (some .boolean), Cond.methodLink RX5 146 yX5_leadOfTurn, Cond.instanceMethod yX5_leadOfTurn, Cond.selects RX5 yX5_leadOfTurn yX5_leadOfTurn, Cond.code yX5_leadOfTurn cX5_leadOfTurn 1 (some .int), Cond.methodLink RX5 98 yX2_sumOfPlaces, Cond.static yX2_sumOfPlaces, Cond.code yX2_sumOfPlaces cX2_sumOfPlaces 4 (some .int), Cond.methodLink RX5 158 yX5_worthBehindMove, Cond.instanceMethod yX5_worthBehindMove, Cond.selects RX5 yX5_worthBehindMove yX5_worthBehindMove, Cond.code yX5_worthBehindMove cX5_worthBehindMove 15 (some .int), Cond.constant RX5 105 (1000000000), Cond.methodLink RX5 74 yX2_shifted, Cond.static yX2_shifted, Cond.code yX2_shifted cX2_shifted 4 (some .long), Cond.methodLink RX5 87 yX2_isAllHome, Cond.static yX2_isAllHome, Cond.code yX2_isAllHome cX2_isAllHome 2 (some .boolean)]
def wsX5_ranked_r5 : List Cond := [Cond.constantLong RX2 11 (1152921504606846975), Cond.methodLink RX5 80 yX2_canBeTaken, Cond.static yX2_canBeTaken, Cond.code yX2_canBeTaken cX2_canBeTaken 3 (some .boolean), Cond.methodLink RX2 21 yX4_isShared, Cond.methodLink RX5 91 yX4_isRosette, Cond.methodLink RX5 150 yX5_worthToThrow, Cond.instanceMethod yX5_worthToThrow, Cond.selects RX5 yX5_worthToThrow yX5_worthToThrow, Cond.code yX5_worthBehindThrow cX5_worthBehindThrow 10 (some .int), Cond.methodLink RX5 171 Lib.Math.max.name, Cond.static Lib.Math.max.name, Cond.code Lib.Math.max.name Lib.Math.max.code 2 (some .int), Cond.code yX5_worthToThrow cX5_worthToThrow 10 (some .int), Cond.constantLong RX5 169 (16), Cond.methodLink RX5 162 yX5_worthAtOnce, Cond.instanceMethod yX5_worthAtOnce, Cond.selects RX5 yX5_worthAtOnce yX5_worthAtOnce, Cond.code yX5_worthAtOnce cX5_worthAtOnce 7 (some .int), Cond.fieldLink RX5 135 "RoyalUrTable" "piecesOfEach" "I", Cond.constant RX5 179 (500000000), Cond.constant RX5 180 (4000000), Cond.constant RX5 181 (999999999), Cond.methodLink RX5 182 Lib.Math.min.name]
def wsX5_ranked_r6 : List Cond := [Cond.methodLink RX5 94 yX2_countAt, Cond.methodLink RX5 176 yX2_firstPlace, Cond.static yX2_firstPlace, Cond.code yX2_firstPlace cX2_firstPlace 3 (some .int), Cond.methodLink RX5 125 yX1_held, Cond.methodLink RX5 166 yX0_timesIn16, Cond.methodLink RX5 154 yX5_worthBehindThrow, Cond.instanceMethod yX5_worthBehindThrow, Cond.selects RX5 yX5_worthBehindThrow yX5_worthBehindThrow, Cond.methodLink RX5 114 yX5_countBetter, Cond.instanceMethod yX5_countBetter, Cond.selects RX5 yX5_countBetter yX5_countBetter, Cond.code yX5_countBetter cX5_countBetter 5 (some .int)]
def wsX5_ranked : List Cond := .code yX5_ranked cX5_ranked 5 (some .int) :: ((wsX5_ranked_r1 ++ (wsX5_ranked_r2 ++ (wsX5_ranked_r3 ++ (wsX5_ranked_r4 ++ (wsX5_ranked_r5 ++ wsX5_ranked_r6))))) ++ wsX50 ++ wsX30 ++ wsX10 ++ (vx_at0 RX5 110 "java/lang/IllegalArgumentException" ["java/lang/RuntimeException", "java/lang/Exception"]).filter goodWord)
def wsX5_refuseEnding : List Cond := .code yX5_refuseEnding cX5_refuseEnding 2 none :: ([.classLink RX5 108 "java/lang/IllegalArgumentException", .initialized "java/lang/IllegalArgumentException", .methodLink RX5 36 yX5_refuseOutside, .static yX5_refuseOutside, .initialized RX5, .code yX5_refuseOutside cX5_refuseOutside 3 none, .methodLink RX5 132 yX4_isShared, .static yX4_isShared, .initialized RX4, .code yX4_isShared cX4_isShared 1 (some .boolean)] ++ (vx_at0 RX5 110 "java/lang/IllegalArgumentException" ["java/lang/RuntimeException", "java/lang/Exception"]).filter goodWord)
def wsX5_ending_r1 : List Cond := [Cond.fieldLink RX5 22 "RoyalUrTable" "endings" "LRoyalUrTable$Endings;", Cond.methodLink RX5 118 yX5_refuseEnding, Cond.static yX5_refuseEnding, Cond.initialized RX5, Cond.code yX5_refuseEnding cX5_refuseEnding 2 none, Cond.classLink RX5 108 "java/lang/IllegalArgumentException", Cond.initialized "java/lang/IllegalArgumentException", Cond.methodLink RX5 36 yX5_refuseOutside, Cond.static yX5_refuseOutside, Cond.code yX5_refuseOutside cX5_refuseOutside 3 none, Cond.methodLink RX5 132 yX4_isShared, Cond.static yX4_isShared, Cond.initialized RX4, Cond.code yX4_isShared cX4_isShared 1 (some .boolean), Cond.methodLink RX5 122 yX1_fillUpTo, Cond.instanceMethod yX1_fillUpTo, Cond.selects RX1 yX1_fillUpTo yX1_fillUpTo, Cond.initialized RX1, Cond.code yX1_fillUpTo cX1_fillUpTo 4 none, Cond.methodLink RX1 17 Lib.Math.min.name, Cond.static Lib.Math.min.name, Cond.initialized "java/lang/Math", Cond.code Lib.Math.min.name Lib.Math.min.code 2 (some .int), Cond.fieldLink RX1 23 "RoyalUrTable$Endings" "roundsHeld" "I"]
def wsX5_ending_r2 : List Cond := [Cond.methodLink RX1 27 yX1_fillRow, Cond.instanceMethod yX1_fillRow, Cond.selects RX1 yX1_fillRow yX1_fillRow, Cond.code yX1_fillRow cX1_fillRow 5 none, Cond.fieldLink RX1 13 "RoyalUrTable$Endings" "worths" "[I", Cond.methodLink RX1 32 yX1_worthToThrow, Cond.instanceMethod yX1_worthToThrow, Cond.selects RX1 yX1_worthToThrow yX1_worthToThrow, Cond.code yX1_worthToThrow cX1_worthToThrow 8 (some .int), Cond.constantLong RX1 50 (16), Cond.methodLink RX1 36 yX1_held, Cond.instanceMethod yX1_held, Cond.selects RX1 yX1_held yX1_held, Cond.code yX1_held cX1_held 5 (some .int), Cond.constant RX1 31 (500000000), Cond.methodLink RX1 42 yX0_timesIn16, Cond.static yX0_timesIn16, Cond.initialized RX0, Cond.code yX0_timesIn16 cX0_timesIn16 1 (some .int), Cond.fieldLink RX0 7 "RoyalUrTable$Dice" "TIMES_IN_16" "[I", Cond.methodLink RX1 46 yX1_worthBehindThrow, Cond.instanceMethod yX1_worthBehindThrow, Cond.selects RX1 yX1_worthBehindThrow yX1_worthBehindThrow, Cond.code yX1_worthBehindThrow cX1_worthBehindThrow 8 (some .int)]
def wsX5_ending_r3 : List Cond := [Cond.constant RX1 56 (1000000000), Cond.methodLink RX1 52 yX4_canEnter, Cond.static yX4_canEnter, Cond.code yX4_canEnter cX4_canEnter 3 (some .boolean), Cond.methodLink RX1 57 yX4_isShared, Cond.methodLink RX1 61 yX4_isRosette, Cond.static yX4_isRosette, Cond.code yX4_isRosette cX4_isRosette 1 (some .boolean), Cond.methodLink RX5 125 yX1_held]
def wsX5_ending : List Cond := .code yX5_ending cX5_ending 4 (some .int) :: ((wsX5_ending_r1 ++ (wsX5_ending_r2 ++ wsX5_ending_r3)) ++ wsX50 ++ wsX10 ++ (vx_at0 RX5 110 "java/lang/IllegalArgumentException" ["java/lang/RuntimeException", "java/lang/Exception"]).filter goodWord)
def wsJ9_max_7cf53 : List Cond := .code yJ9_max_7cf53 cJ9_max_7cf53 2 (some .int) :: ([])
def wsJ9_min_7cf53 : List Cond := .code yJ9_min_7cf53 cJ9_min_7cf53 2 (some .int) :: ([])
def wsL_cell : List Cond := .code yL_cell cL_cell 2 (some .int) :: ([.constant RL 7 (49711), .constant RL 8 (2919955)])
def wsL_low : List Cond := .code yL_low cL_low 2 (some .int) :: ([.constant RL 9 (2147483647)])
def wsL_tells_r1 : List Cond := [Cond.classLink RL 16 "java/lang/IllegalStateException", Cond.methodLink RL 10 yX5_tell, Cond.instanceMethod yX5_tell, Cond.selects RX5 yX5_tell yX5_tell, Cond.initialized RX5, Cond.code yX5_tell cX5_tell 3 (some .int), Cond.classLink RX5 49 "java/lang/IllegalStateException", Cond.initialized "java/lang/IllegalStateException", Cond.fieldLink RX5 42 "RoyalUrTable" "winner" "I", Cond.fieldLink RX5 46 "RoyalUrTable" "marksTold" "I", Cond.fieldLink RX5 52 "RoyalUrTable" "throwsTold" "I", Cond.fieldLink RX5 59 "RoyalUrTable" "turn" "I", Cond.methodLink RX5 36 yX5_refuseOutside, Cond.static yX5_refuseOutside, Cond.code yX5_refuseOutside cX5_refuseOutside 3 none, Cond.classLink RX5 108 "java/lang/IllegalArgumentException", Cond.initialized "java/lang/IllegalArgumentException", Cond.methodLink RX5 55 yX5_countMoves, Cond.instanceMethod yX5_countMoves, Cond.selects RX5 yX5_countMoves yX5_countMoves, Cond.code yX5_countMoves cX5_countMoves 8 (some .int), Cond.fieldLink RX5 70 "RoyalUrTable$Side" "layout" "J", Cond.methodLink RX5 66 yX5_sideOf, Cond.instanceMethod yX5_sideOf]
def wsL_tells_r2 : List Cond := [Cond.selects RX5 yX5_sideOf yX5_sideOf, Cond.code yX5_sideOf cX5_sideOf 2 (some (.object "RoyalUrTable$Side")), Cond.fieldLink RX5 10 "RoyalUrTable" "side0" "LRoyalUrTable$Side;", Cond.fieldLink RX5 16 "RoyalUrTable" "side1" "LRoyalUrTable$Side;", Cond.methodLink RX5 142 yX2_canMove, Cond.static yX2_canMove, Cond.initialized RX2, Cond.code yX2_canMove cX2_canMove 7 (some .boolean), Cond.methodLink RX2 13 yX2_countAt, Cond.static yX2_countAt, Cond.code yX2_countAt cX2_countAt 3 (some .int), Cond.methodLink RX2 17 yX4_canEnter, Cond.static yX4_canEnter, Cond.initialized RX4, Cond.code yX4_canEnter cX4_canEnter 3 (some .boolean)]
def wsL_tells : List Cond := .codeWith yL_tells cL_tells 3 (some .int) [(0, 5, 6, 16)] :: ((wsL_tells_r1 ++ wsL_tells_r2) ++ wsX50 ++ wsX30 ++ (vx_at0 RX5 51 "java/lang/IllegalStateException" ["java/lang/RuntimeException", "java/lang/Exception"]).filter goodWord ++ (vx_at0 RX5 110 "java/lang/IllegalArgumentException" ["java/lang/RuntimeException", "java/lang/Exception"]).filter goodWord)
def wsL_moves_r1 : List Cond := [Cond.classLink RL 16 "java/lang/IllegalStateException", Cond.methodLink RL 18 yX5_move, Cond.instanceMethod yX5_move, Cond.selects RX5 yX5_move yX5_move, Cond.initialized RX5, Cond.code yX5_move cX5_move 5 (some .int), Cond.classLink RX5 49 "java/lang/IllegalStateException", Cond.initialized "java/lang/IllegalStateException", Cond.fieldLink RX5 46 "RoyalUrTable" "marksTold" "I", Cond.fieldLink RX5 59 "RoyalUrTable" "turn" "I", Cond.fieldLink RX5 70 "RoyalUrTable$Side" "layout" "J", Cond.fieldLink RX5 84 "RoyalUrTable$Side" "lost" "I", Cond.fieldLink RX5 42 "RoyalUrTable" "winner" "I", Cond.methodLink RX5 36 yX5_refuseOutside, Cond.static yX5_refuseOutside, Cond.code yX5_refuseOutside cX5_refuseOutside 3 none, Cond.classLink RX5 108 "java/lang/IllegalArgumentException", Cond.initialized "java/lang/IllegalArgumentException", Cond.methodLink RX5 62 yX5_canMoveFrom, Cond.instanceMethod yX5_canMoveFrom, Cond.selects RX5 yX5_canMoveFrom yX5_canMoveFrom, Cond.code yX5_canMoveFrom cX5_canMoveFrom 2 (some .boolean), Cond.methodLink RX5 66 yX5_sideOf, Cond.instanceMethod yX5_sideOf]
def wsL_moves_r2 : List Cond := [Cond.selects RX5 yX5_sideOf yX5_sideOf, Cond.code yX5_sideOf cX5_sideOf 2 (some (.object "RoyalUrTable$Side")), Cond.fieldLink RX5 10 "RoyalUrTable" "side0" "LRoyalUrTable$Side;", Cond.fieldLink RX5 16 "RoyalUrTable" "side1" "LRoyalUrTable$Side;", Cond.methodLink RX5 142 yX2_canMove, Cond.static yX2_canMove, Cond.initialized RX2, Cond.code yX2_canMove cX2_canMove 7 (some .boolean), Cond.methodLink RX2 13 yX2_countAt, Cond.static yX2_countAt, Cond.code yX2_countAt cX2_countAt 3 (some .int), Cond.methodLink RX2 17 yX4_canEnter, Cond.static yX4_canEnter, Cond.initialized RX4, Cond.code yX4_canEnter cX4_canEnter 3 (some .boolean), Cond.methodLink RX5 74 yX2_shifted, Cond.static yX2_shifted, Cond.code yX2_shifted cX2_shifted 4 (some .long), Cond.methodLink RX5 80 yX2_canBeTaken, Cond.static yX2_canBeTaken, Cond.code yX2_canBeTaken cX2_canBeTaken 3 (some .boolean), Cond.methodLink RX2 21 yX4_isShared, Cond.static yX4_isShared, Cond.code yX4_isShared cX4_isShared 1 (some .boolean)]
def wsL_moves_r3 : List Cond := [Cond.methodLink RX5 87 yX2_isAllHome, Cond.static yX2_isAllHome, Cond.code yX2_isAllHome cX2_isAllHome 2 (some .boolean), Cond.constantLong RX2 11 (1152921504606846975), Cond.methodLink RX5 91 yX4_isRosette, Cond.static yX4_isRosette, Cond.code yX4_isRosette cX4_isRosette 1 (some .boolean)]
def wsL_moves : List Cond := .codeWith yL_moves cL_moves 3 (some .int) [(0, 5, 6, 16)] :: ((wsL_moves_r1 ++ (wsL_moves_r2 ++ wsL_moves_r3)) ++ wsX50 ++ wsX30 ++ (vx_at0 RX5 51 "java/lang/IllegalStateException" ["java/lang/RuntimeException", "java/lang/Exception"]).filter goodWord ++ (vx_at0 RX5 110 "java/lang/IllegalArgumentException" ["java/lang/RuntimeException", "java/lang/Exception"]).filter goodWord)
def wsL_can : List Cond := .code yL_can cL_can 6 (some .boolean) :: ([])
def wsL_takes : List Cond := .code yL_takes cL_takes 3 (some .boolean) :: ([])
def wsL_shift : List Cond := .code yL_shift cL_shift 5 none :: ([.methodLink RL 21 yL_takes, .static yL_takes, .initialized RL, .code yL_takes cL_takes 3 (some .boolean)])
def wsL_after : List Cond := .code yL_after cL_after 2 (some .int) :: ([])
def wsL_progress : List Cond := .code yL_progress cL_progress 4 (some .int) :: ([])
def wsL_plain_r1 : List Cond := [Cond.constant RL 31 (500000000), Cond.constant RL 32 (4000000), Cond.methodLink RL 27 yX5_ending, Cond.instanceMethod yX5_ending, Cond.selects RX5 yX5_ending yX5_ending, Cond.initialized RX5, Cond.code yX5_ending cX5_ending 4 (some .int), Cond.fieldLink RX5 22 "RoyalUrTable" "endings" "LRoyalUrTable$Endings;", Cond.methodLink RX5 118 yX5_refuseEnding, Cond.static yX5_refuseEnding, Cond.code yX5_refuseEnding cX5_refuseEnding 2 none, Cond.classLink RX5 108 "java/lang/IllegalArgumentException", Cond.initialized "java/lang/IllegalArgumentException", Cond.methodLink RX5 36 yX5_refuseOutside, Cond.static yX5_refuseOutside, Cond.code yX5_refuseOutside cX5_refuseOutside 3 none, Cond.methodLink RX5 132 yX4_isShared, Cond.static yX4_isShared, Cond.initialized RX4, Cond.code yX4_isShared cX4_isShared 1 (some .boolean), Cond.methodLink RX5 122 yX1_fillUpTo, Cond.instanceMethod yX1_fillUpTo, Cond.selects RX1 yX1_fillUpTo yX1_fillUpTo, Cond.initialized RX1]
def wsL_plain_r2 : List Cond := [Cond.code yX1_fillUpTo cX1_fillUpTo 4 none, Cond.methodLink RX1 17 Lib.Math.min.name, Cond.static Lib.Math.min.name, Cond.initialized "java/lang/Math", Cond.code Lib.Math.min.name Lib.Math.min.code 2 (some .int), Cond.fieldLink RX1 23 "RoyalUrTable$Endings" "roundsHeld" "I", Cond.methodLink RX1 27 yX1_fillRow, Cond.instanceMethod yX1_fillRow, Cond.selects RX1 yX1_fillRow yX1_fillRow, Cond.code yX1_fillRow cX1_fillRow 5 none, Cond.fieldLink RX1 13 "RoyalUrTable$Endings" "worths" "[I", Cond.methodLink RX1 32 yX1_worthToThrow, Cond.instanceMethod yX1_worthToThrow, Cond.selects RX1 yX1_worthToThrow yX1_worthToThrow, Cond.code yX1_worthToThrow cX1_worthToThrow 8 (some .int), Cond.constantLong RX1 50 (16), Cond.methodLink RX1 36 yX1_held, Cond.instanceMethod yX1_held, Cond.selects RX1 yX1_held yX1_held, Cond.code yX1_held cX1_held 5 (some .int), Cond.constant RX1 31 (500000000), Cond.methodLink RX1 42 yX0_timesIn16, Cond.static yX0_timesIn16, Cond.initialized RX0]
def wsL_plain_r3 : List Cond := [Cond.code yX0_timesIn16 cX0_timesIn16 1 (some .int), Cond.fieldLink RX0 7 "RoyalUrTable$Dice" "TIMES_IN_16" "[I", Cond.methodLink RX1 46 yX1_worthBehindThrow, Cond.instanceMethod yX1_worthBehindThrow, Cond.selects RX1 yX1_worthBehindThrow yX1_worthBehindThrow, Cond.code yX1_worthBehindThrow cX1_worthBehindThrow 8 (some .int), Cond.constant RX1 56 (1000000000), Cond.methodLink RX1 52 yX4_canEnter, Cond.static yX4_canEnter, Cond.code yX4_canEnter cX4_canEnter 3 (some .boolean), Cond.methodLink RX1 57 yX4_isShared, Cond.methodLink RX1 61 yX4_isRosette, Cond.static yX4_isRosette, Cond.code yX4_isRosette cX4_isRosette 1 (some .boolean), Cond.methodLink RX5 125 yX1_held, Cond.methodLink RL 33 yL_progress, Cond.static yL_progress, Cond.initialized RL, Cond.code yL_progress cL_progress 4 (some .int)]
def wsL_plain : List Cond := .code yL_plain cL_plain 7 (some .int) :: ((wsL_plain_r1 ++ (wsL_plain_r2 ++ wsL_plain_r3)) ++ wsX50 ++ wsX10 ++ (vx_at0 RX5 110 "java/lang/IllegalArgumentException" ["java/lang/RuntimeException", "java/lang/Exception"]).filter goodWord)
def wsL_copy : List Cond := .code yL_copy cL_copy 3 none :: ([])
def wsL_ahead_r1 : List Cond := [Cond.constant RL 53 (1000000000), Cond.constantLong RL 58 (16), Cond.methodLink RL 37 yL_can, Cond.static yL_can, Cond.initialized RL, Cond.code yL_can cL_can 6 (some .boolean), Cond.methodLink RL 41 yL_copy, Cond.static yL_copy, Cond.code yL_copy cL_copy 3 none, Cond.methodLink RL 45 yL_shift, Cond.static yL_shift, Cond.code yL_shift cL_shift 5 none, Cond.methodLink RL 21 yL_takes, Cond.static yL_takes, Cond.code yL_takes cL_takes 3 (some .boolean), Cond.methodLink RL 49 yL_after, Cond.static yL_after, Cond.code yL_after cL_after 2 (some .int), Cond.methodLink RL 54 yL_plain, Cond.static yL_plain, Cond.code yL_plain cL_plain 7 (some .int), Cond.constant RL 31 (500000000), Cond.constant RL 32 (4000000), Cond.methodLink RL 27 yX5_ending]
def wsL_ahead_r2 : List Cond := [Cond.instanceMethod yX5_ending, Cond.selects RX5 yX5_ending yX5_ending, Cond.initialized RX5, Cond.code yX5_ending cX5_ending 4 (some .int), Cond.fieldLink RX5 22 "RoyalUrTable" "endings" "LRoyalUrTable$Endings;", Cond.methodLink RX5 118 yX5_refuseEnding, Cond.static yX5_refuseEnding, Cond.code yX5_refuseEnding cX5_refuseEnding 2 none, Cond.classLink RX5 108 "java/lang/IllegalArgumentException", Cond.initialized "java/lang/IllegalArgumentException", Cond.methodLink RX5 36 yX5_refuseOutside, Cond.static yX5_refuseOutside, Cond.code yX5_refuseOutside cX5_refuseOutside 3 none, Cond.methodLink RX5 132 yX4_isShared, Cond.static yX4_isShared, Cond.initialized RX4, Cond.code yX4_isShared cX4_isShared 1 (some .boolean), Cond.methodLink RX5 122 yX1_fillUpTo, Cond.instanceMethod yX1_fillUpTo, Cond.selects RX1 yX1_fillUpTo yX1_fillUpTo, Cond.initialized RX1, Cond.code yX1_fillUpTo cX1_fillUpTo 4 none, Cond.methodLink RX1 17 Lib.Math.min.name, Cond.static Lib.Math.min.name]
def wsL_ahead_r3 : List Cond := [Cond.initialized "java/lang/Math", Cond.code Lib.Math.min.name Lib.Math.min.code 2 (some .int), Cond.fieldLink RX1 23 "RoyalUrTable$Endings" "roundsHeld" "I", Cond.methodLink RX1 27 yX1_fillRow, Cond.instanceMethod yX1_fillRow, Cond.selects RX1 yX1_fillRow yX1_fillRow, Cond.code yX1_fillRow cX1_fillRow 5 none, Cond.fieldLink RX1 13 "RoyalUrTable$Endings" "worths" "[I", Cond.methodLink RX1 32 yX1_worthToThrow, Cond.instanceMethod yX1_worthToThrow, Cond.selects RX1 yX1_worthToThrow yX1_worthToThrow, Cond.code yX1_worthToThrow cX1_worthToThrow 8 (some .int), Cond.constantLong RX1 50 (16), Cond.methodLink RX1 36 yX1_held, Cond.instanceMethod yX1_held, Cond.selects RX1 yX1_held yX1_held, Cond.code yX1_held cX1_held 5 (some .int), Cond.constant RX1 31 (500000000), Cond.methodLink RX1 42 yX0_timesIn16, Cond.static yX0_timesIn16, Cond.initialized RX0, Cond.code yX0_timesIn16 cX0_timesIn16 1 (some .int), Cond.fieldLink RX0 7 "RoyalUrTable$Dice" "TIMES_IN_16" "[I", Cond.methodLink RX1 46 yX1_worthBehindThrow]
def wsL_ahead_r4 : List Cond := [Cond.instanceMethod yX1_worthBehindThrow, Cond.selects RX1 yX1_worthBehindThrow yX1_worthBehindThrow, Cond.code yX1_worthBehindThrow cX1_worthBehindThrow 8 (some .int), Cond.constant RX1 56 (1000000000), Cond.methodLink RX1 52 yX4_canEnter, Cond.static yX4_canEnter, Cond.code yX4_canEnter cX4_canEnter 3 (some .boolean), Cond.methodLink RX1 57 yX4_isShared, Cond.methodLink RX1 61 yX4_isRosette, Cond.static yX4_isRosette, Cond.code yX4_isRosette cX4_isRosette 1 (some .boolean), Cond.methodLink RX5 125 yX1_held, Cond.methodLink RL 33 yL_progress, Cond.static yL_progress, Cond.code yL_progress cL_progress 4 (some .int)]
def wsL_ahead : List Cond := .code yL_ahead cL_ahead 12 (some .int) :: ((wsL_ahead_r1 ++ (wsL_ahead_r2 ++ (wsL_ahead_r3 ++ wsL_ahead_r4))) ++ wsX50 ++ wsX10 ++ (vx_at0 RX5 110 "java/lang/IllegalArgumentException" ["java/lang/RuntimeException", "java/lang/Exception"]).filter goodWord)
def wsL_behind_r1 : List Cond := [Cond.constant RL 53 (1000000000), Cond.methodLink RL 41 yL_copy, Cond.static yL_copy, Cond.initialized RL, Cond.code yL_copy cL_copy 3 none, Cond.methodLink RL 45 yL_shift, Cond.static yL_shift, Cond.code yL_shift cL_shift 5 none, Cond.methodLink RL 21 yL_takes, Cond.static yL_takes, Cond.code yL_takes cL_takes 3 (some .boolean), Cond.methodLink RL 49 yL_after, Cond.static yL_after, Cond.code yL_after cL_after 2 (some .int), Cond.methodLink RL 54 yL_plain, Cond.static yL_plain, Cond.code yL_plain cL_plain 7 (some .int), Cond.constant RL 31 (500000000), Cond.constant RL 32 (4000000), Cond.methodLink RL 27 yX5_ending, Cond.instanceMethod yX5_ending, Cond.selects RX5 yX5_ending yX5_ending, Cond.initialized RX5, Cond.code yX5_ending cX5_ending 4 (some .int)]
def wsL_behind_r2 : List Cond := [Cond.fieldLink RX5 22 "RoyalUrTable" "endings" "LRoyalUrTable$Endings;", Cond.methodLink RX5 118 yX5_refuseEnding, Cond.static yX5_refuseEnding, Cond.code yX5_refuseEnding cX5_refuseEnding 2 none, Cond.classLink RX5 108 "java/lang/IllegalArgumentException", Cond.initialized "java/lang/IllegalArgumentException", Cond.methodLink RX5 36 yX5_refuseOutside, Cond.static yX5_refuseOutside, Cond.code yX5_refuseOutside cX5_refuseOutside 3 none, Cond.methodLink RX5 132 yX4_isShared, Cond.static yX4_isShared, Cond.initialized RX4, Cond.code yX4_isShared cX4_isShared 1 (some .boolean), Cond.methodLink RX5 122 yX1_fillUpTo, Cond.instanceMethod yX1_fillUpTo, Cond.selects RX1 yX1_fillUpTo yX1_fillUpTo, Cond.initialized RX1, Cond.code yX1_fillUpTo cX1_fillUpTo 4 none, Cond.methodLink RX1 17 Lib.Math.min.name, Cond.static Lib.Math.min.name, Cond.initialized "java/lang/Math", Cond.code Lib.Math.min.name Lib.Math.min.code 2 (some .int), Cond.fieldLink RX1 23 "RoyalUrTable$Endings" "roundsHeld" "I", Cond.methodLink RX1 27 yX1_fillRow]
def wsL_behind_r3 : List Cond := [Cond.instanceMethod yX1_fillRow, Cond.selects RX1 yX1_fillRow yX1_fillRow, Cond.code yX1_fillRow cX1_fillRow 5 none, Cond.fieldLink RX1 13 "RoyalUrTable$Endings" "worths" "[I", Cond.methodLink RX1 32 yX1_worthToThrow, Cond.instanceMethod yX1_worthToThrow, Cond.selects RX1 yX1_worthToThrow yX1_worthToThrow, Cond.code yX1_worthToThrow cX1_worthToThrow 8 (some .int), Cond.constantLong RX1 50 (16), Cond.methodLink RX1 36 yX1_held, Cond.instanceMethod yX1_held, Cond.selects RX1 yX1_held yX1_held, Cond.code yX1_held cX1_held 5 (some .int), Cond.constant RX1 31 (500000000), Cond.methodLink RX1 42 yX0_timesIn16, Cond.static yX0_timesIn16, Cond.initialized RX0, Cond.code yX0_timesIn16 cX0_timesIn16 1 (some .int), Cond.fieldLink RX0 7 "RoyalUrTable$Dice" "TIMES_IN_16" "[I", Cond.methodLink RX1 46 yX1_worthBehindThrow, Cond.instanceMethod yX1_worthBehindThrow, Cond.selects RX1 yX1_worthBehindThrow yX1_worthBehindThrow, Cond.code yX1_worthBehindThrow cX1_worthBehindThrow 8 (some .int), Cond.constant RX1 56 (1000000000)]
def wsL_behind_r4 : List Cond := [Cond.methodLink RX1 52 yX4_canEnter, Cond.static yX4_canEnter, Cond.code yX4_canEnter cX4_canEnter 3 (some .boolean), Cond.methodLink RX1 57 yX4_isShared, Cond.methodLink RX1 61 yX4_isRosette, Cond.static yX4_isRosette, Cond.code yX4_isRosette cX4_isRosette 1 (some .boolean), Cond.methodLink RX5 125 yX1_held, Cond.methodLink RL 33 yL_progress, Cond.static yL_progress, Cond.code yL_progress cL_progress 4 (some .int), Cond.methodLink RL 60 yL_ahead, Cond.static yL_ahead, Cond.code yL_ahead cL_ahead 12 (some .int), Cond.constantLong RL 58 (16), Cond.methodLink RL 37 yL_can, Cond.static yL_can, Cond.code yL_can cL_can 6 (some .boolean)]
def wsL_behind : List Cond := .code yL_behind cL_behind 9 (some .int) :: ((wsL_behind_r1 ++ (wsL_behind_r2 ++ (wsL_behind_r3 ++ wsL_behind_r4))) ++ wsX50 ++ wsX10 ++ (vx_at0 RX5 110 "java/lang/IllegalArgumentException" ["java/lang/RuntimeException", "java/lang/Exception"]).filter goodWord)
def wsL_worths_r1 : List Cond := [Cond.constant RL 53 (1000000000), Cond.constantDouble RL 75 (4741671816366391296), Cond.methodLink RL 54 yL_plain, Cond.static yL_plain, Cond.initialized RL, Cond.code yL_plain cL_plain 7 (some .int), Cond.constant RL 31 (500000000), Cond.constant RL 32 (4000000), Cond.methodLink RL 27 yX5_ending, Cond.instanceMethod yX5_ending, Cond.selects RX5 yX5_ending yX5_ending, Cond.initialized RX5, Cond.code yX5_ending cX5_ending 4 (some .int), Cond.fieldLink RX5 22 "RoyalUrTable" "endings" "LRoyalUrTable$Endings;", Cond.methodLink RX5 118 yX5_refuseEnding, Cond.static yX5_refuseEnding, Cond.code yX5_refuseEnding cX5_refuseEnding 2 none, Cond.classLink RX5 108 "java/lang/IllegalArgumentException", Cond.initialized "java/lang/IllegalArgumentException", Cond.methodLink RX5 36 yX5_refuseOutside, Cond.static yX5_refuseOutside, Cond.code yX5_refuseOutside cX5_refuseOutside 3 none, Cond.methodLink RX5 132 yX4_isShared, Cond.static yX4_isShared]
def wsL_worths_r2 : List Cond := [Cond.initialized RX4, Cond.code yX4_isShared cX4_isShared 1 (some .boolean), Cond.methodLink RX5 122 yX1_fillUpTo, Cond.instanceMethod yX1_fillUpTo, Cond.selects RX1 yX1_fillUpTo yX1_fillUpTo, Cond.initialized RX1, Cond.code yX1_fillUpTo cX1_fillUpTo 4 none, Cond.methodLink RX1 17 Lib.Math.min.name, Cond.static Lib.Math.min.name, Cond.initialized "java/lang/Math", Cond.code Lib.Math.min.name Lib.Math.min.code 2 (some .int), Cond.fieldLink RX1 23 "RoyalUrTable$Endings" "roundsHeld" "I", Cond.methodLink RX1 27 yX1_fillRow, Cond.instanceMethod yX1_fillRow, Cond.selects RX1 yX1_fillRow yX1_fillRow, Cond.code yX1_fillRow cX1_fillRow 5 none, Cond.fieldLink RX1 13 "RoyalUrTable$Endings" "worths" "[I", Cond.methodLink RX1 32 yX1_worthToThrow, Cond.instanceMethod yX1_worthToThrow, Cond.selects RX1 yX1_worthToThrow yX1_worthToThrow, Cond.code yX1_worthToThrow cX1_worthToThrow 8 (some .int), Cond.constantLong RX1 50 (16), Cond.methodLink RX1 36 yX1_held, Cond.instanceMethod yX1_held]
def wsL_worths_r3 : List Cond := [Cond.selects RX1 yX1_held yX1_held, Cond.code yX1_held cX1_held 5 (some .int), Cond.constant RX1 31 (500000000), Cond.methodLink RX1 42 yX0_timesIn16, Cond.static yX0_timesIn16, Cond.initialized RX0, Cond.code yX0_timesIn16 cX0_timesIn16 1 (some .int), Cond.fieldLink RX0 7 "RoyalUrTable$Dice" "TIMES_IN_16" "[I", Cond.methodLink RX1 46 yX1_worthBehindThrow, Cond.instanceMethod yX1_worthBehindThrow, Cond.selects RX1 yX1_worthBehindThrow yX1_worthBehindThrow, Cond.code yX1_worthBehindThrow cX1_worthBehindThrow 8 (some .int), Cond.constant RX1 56 (1000000000), Cond.methodLink RX1 52 yX4_canEnter, Cond.static yX4_canEnter, Cond.code yX4_canEnter cX4_canEnter 3 (some .boolean), Cond.methodLink RX1 57 yX4_isShared, Cond.methodLink RX1 61 yX4_isRosette, Cond.static yX4_isRosette, Cond.code yX4_isRosette cX4_isRosette 1 (some .boolean), Cond.methodLink RX5 125 yX1_held, Cond.methodLink RL 33 yL_progress, Cond.static yL_progress, Cond.code yL_progress cL_progress 4 (some .int)]
def wsL_worths_r4 : List Cond := [Cond.methodLink RL 60 yL_ahead, Cond.static yL_ahead, Cond.code yL_ahead cL_ahead 12 (some .int), Cond.constantLong RL 58 (16), Cond.methodLink RL 37 yL_can, Cond.static yL_can, Cond.code yL_can cL_can 6 (some .boolean), Cond.methodLink RL 41 yL_copy, Cond.static yL_copy, Cond.code yL_copy cL_copy 3 none, Cond.methodLink RL 45 yL_shift, Cond.static yL_shift, Cond.code yL_shift cL_shift 5 none, Cond.methodLink RL 21 yL_takes, Cond.static yL_takes, Cond.code yL_takes cL_takes 3 (some .boolean), Cond.methodLink RL 49 yL_after, Cond.static yL_after, Cond.code yL_after cL_after 2 (some .int), Cond.methodLink RL 64 yL_behind, Cond.static yL_behind, Cond.code yL_behind cL_behind 9 (some .int), Cond.methodLink RL 68 yX5_worth, Cond.instanceMethod yX5_worth]
def wsL_worths_r5 : List Cond := [Cond.selects RX5 yX5_worth yX5_worth, Cond.code yX5_worth cX5_worth 3 (some .int), Cond.fieldLink RX5 59 "RoyalUrTable" "turn" "I", Cond.constant RX5 105 (1000000000), Cond.methodLink RX5 102 yX5_worthForTurn, Cond.instanceMethod yX5_worthForTurn, Cond.selects RX5 yX5_worthForTurn yX5_worthForTurn, Cond.code yX5_worthForTurn cX5_worthForTurn 6 (some .int), Cond.fieldLink RX5 42 "RoyalUrTable" "winner" "I", Cond.fieldLink RX5 70 "RoyalUrTable$Side" "layout" "J", Cond.fieldLink RX5 46 "RoyalUrTable" "marksTold" "I", Cond.methodLink RX5 66 yX5_sideOf, Cond.instanceMethod yX5_sideOf, Cond.selects RX5 yX5_sideOf yX5_sideOf, Cond.code yX5_sideOf cX5_sideOf 2 (some (.object "RoyalUrTable$Side")), Cond.fieldLink RX5 10 "RoyalUrTable" "side0" "LRoyalUrTable$Side;", Cond.fieldLink RX5 16 "RoyalUrTable" "side1" "LRoyalUrTable$Side;", Cond.methodLink RX5 146 yX5_leadOfTurn, Cond.instanceMethod yX5_leadOfTurn, Cond.selects RX5 yX5_leadOfTurn yX5_leadOfTurn, Cond.code yX5_leadOfTurn cX5_leadOfTurn 1 (some .int), Cond.methodLink RX5 98 yX2_sumOfPlaces, Cond.static yX2_sumOfPlaces, Cond.initialized RX2]
def wsL_worths_r6 : List Cond := [Cond.code yX2_sumOfPlaces cX2_sumOfPlaces 4 (some .int), Cond.methodLink RX2 13 yX2_countAt, Cond.static yX2_countAt, Cond.code yX2_countAt cX2_countAt 3 (some .int), Cond.methodLink RX5 150 yX5_worthToThrow, Cond.instanceMethod yX5_worthToThrow, Cond.selects RX5 yX5_worthToThrow yX5_worthToThrow, Cond.code yX5_worthToThrow cX5_worthToThrow 10 (some .int), Cond.constantLong RX5 169 (16), Cond.methodLink RX5 162 yX5_worthAtOnce, Cond.instanceMethod yX5_worthAtOnce, Cond.selects RX5 yX5_worthAtOnce yX5_worthAtOnce, Cond.code yX5_worthAtOnce cX5_worthAtOnce 7 (some .int), Cond.fieldLink RX5 135 "RoyalUrTable" "piecesOfEach" "I", Cond.constant RX5 179 (500000000), Cond.constant RX5 180 (4000000), Cond.methodLink RX5 171 Lib.Math.max.name, Cond.static Lib.Math.max.name, Cond.code Lib.Math.max.name Lib.Math.max.code 2 (some .int), Cond.constant RX5 181 (999999999), Cond.methodLink RX5 182 Lib.Math.min.name, Cond.methodLink RX5 94 yX2_countAt, Cond.methodLink RX5 176 yX2_firstPlace, Cond.static yX2_firstPlace]
def wsL_worths_r7 : List Cond := [Cond.code yX2_firstPlace cX2_firstPlace 3 (some .int), Cond.methodLink RX5 166 yX0_timesIn16, Cond.methodLink RX5 154 yX5_worthBehindThrow, Cond.instanceMethod yX5_worthBehindThrow, Cond.selects RX5 yX5_worthBehindThrow yX5_worthBehindThrow, Cond.code yX5_worthBehindMove cX5_worthBehindMove 15 (some .int), Cond.methodLink RX5 74 yX2_shifted, Cond.static yX2_shifted, Cond.code yX2_shifted cX2_shifted 4 (some .long), Cond.methodLink RX5 87 yX2_isAllHome, Cond.static yX2_isAllHome, Cond.code yX2_isAllHome cX2_isAllHome 2 (some .boolean), Cond.constantLong RX2 11 (1152921504606846975), Cond.methodLink RX5 80 yX2_canBeTaken, Cond.static yX2_canBeTaken, Cond.code yX2_canBeTaken cX2_canBeTaken 3 (some .boolean), Cond.methodLink RX2 21 yX4_isShared, Cond.methodLink RX5 91 yX4_isRosette, Cond.code yX5_worthBehindThrow cX5_worthBehindThrow 10 (some .int), Cond.methodLink RX5 142 yX2_canMove, Cond.static yX2_canMove, Cond.code yX2_canMove cX2_canMove 7 (some .boolean), Cond.methodLink RX2 17 yX4_canEnter, Cond.methodLink RX5 158 yX5_worthBehindMove]
def wsL_worths_r8 : List Cond := [Cond.instanceMethod yX5_worthBehindMove, Cond.selects RX5 yX5_worthBehindMove yX5_worthBehindMove, Cond.methodLink RL 71 yX5_chance, Cond.instanceMethod yX5_chance, Cond.selects RX5 yX5_chance yX5_chance, Cond.code yX5_chance cX5_chance 2 (some .double), Cond.constantDouble RX5 106 (4741671816366391296), Cond.methodLink RL 77 yX5_ranked, Cond.instanceMethod yX5_ranked, Cond.selects RX5 yX5_ranked yX5_ranked, Cond.code yX5_ranked cX5_ranked 5 (some .int), Cond.fieldLink RX5 28 "RoyalUrTable" "worthsBehind" "[I", Cond.methodLink RX5 55 yX5_countMoves, Cond.instanceMethod yX5_countMoves, Cond.selects RX5 yX5_countMoves yX5_countMoves, Cond.code yX5_countMoves cX5_countMoves 8 (some .int), Cond.methodLink RX5 111 yX5_noteWorthsBehind, Cond.instanceMethod yX5_noteWorthsBehind, Cond.selects RX5 yX5_noteWorthsBehind yX5_noteWorthsBehind, Cond.code yX5_noteWorthsBehind cX5_noteWorthsBehind 8 none, Cond.methodLink RX5 114 yX5_countBetter, Cond.instanceMethod yX5_countBetter, Cond.selects RX5 yX5_countBetter yX5_countBetter, Cond.code yX5_countBetter cX5_countBetter 5 (some .int)]
def wsL_worths : List Cond := .code yL_worths cL_worths 13 (some .boolean) :: ((wsL_worths_r1 ++ (wsL_worths_r2 ++ (wsL_worths_r3 ++ (wsL_worths_r4 ++ (wsL_worths_r5 ++ (wsL_worths_r6 ++ (wsL_worths_r7 ++ wsL_worths_r8))))))) ++ wsX50 ++ wsX10 ++ wsX30 ++ (vx_at0 RX5 110 "java/lang/IllegalArgumentException" ["java/lang/RuntimeException", "java/lang/Exception"]).filter goodWord)
def wsL_isSo_r1 : List Cond := [Cond.methodLink RL 80 yX5_turn, Cond.instanceMethod yX5_turn, Cond.selects RX5 yX5_turn yX5_turn, Cond.initialized RX5, Cond.code yX5_turn cX5_turn 1 (some .int), Cond.fieldLink RX5 59 "RoyalUrTable" "turn" "I", Cond.methodLink RL 84 yX5_marks, Cond.instanceMethod yX5_marks, Cond.selects RX5 yX5_marks yX5_marks, Cond.code yX5_marks cX5_marks 1 (some .int), Cond.fieldLink RX5 46 "RoyalUrTable" "marksTold" "I", Cond.methodLink RL 87 yX5_winner, Cond.instanceMethod yX5_winner, Cond.selects RX5 yX5_winner yX5_winner, Cond.code yX5_winner cX5_winner 1 (some .int), Cond.fieldLink RX5 42 "RoyalUrTable" "winner" "I", Cond.methodLink RL 90 yX5_throwsTold, Cond.instanceMethod yX5_throwsTold, Cond.selects RX5 yX5_throwsTold yX5_throwsTold, Cond.code yX5_throwsTold cX5_throwsTold 1 (some .int), Cond.fieldLink RX5 52 "RoyalUrTable" "throwsTold" "I", Cond.methodLink RL 37 yL_can, Cond.static yL_can, Cond.initialized RL]
def wsL_isSo_r2 : List Cond := [Cond.code yL_can cL_can 6 (some .boolean), Cond.methodLink RL 93 yX5_at, Cond.instanceMethod yX5_at, Cond.selects RX5 yX5_at yX5_at, Cond.code yX5_at cX5_at 3 (some .int), Cond.fieldLink RX5 70 "RoyalUrTable$Side" "layout" "J", Cond.methodLink RX5 36 yX5_refuseOutside, Cond.static yX5_refuseOutside, Cond.code yX5_refuseOutside cX5_refuseOutside 3 none, Cond.classLink RX5 108 "java/lang/IllegalArgumentException", Cond.initialized "java/lang/IllegalArgumentException", Cond.methodLink RX5 66 yX5_sideOf, Cond.instanceMethod yX5_sideOf, Cond.selects RX5 yX5_sideOf yX5_sideOf, Cond.code yX5_sideOf cX5_sideOf 2 (some (.object "RoyalUrTable$Side")), Cond.fieldLink RX5 10 "RoyalUrTable" "side0" "LRoyalUrTable$Side;", Cond.fieldLink RX5 16 "RoyalUrTable" "side1" "LRoyalUrTable$Side;", Cond.methodLink RX5 94 yX2_countAt, Cond.static yX2_countAt, Cond.initialized RX2, Cond.code yX2_countAt cX2_countAt 3 (some .int), Cond.methodLink RL 96 yX5_captures, Cond.instanceMethod yX5_captures, Cond.selects RX5 yX5_captures yX5_captures]
def wsL_isSo_r3 : List Cond := [Cond.code yX5_captures cX5_captures 2 (some .boolean), Cond.methodLink RX5 62 yX5_canMoveFrom, Cond.instanceMethod yX5_canMoveFrom, Cond.selects RX5 yX5_canMoveFrom yX5_canMoveFrom, Cond.code yX5_canMoveFrom cX5_canMoveFrom 2 (some .boolean), Cond.methodLink RX5 142 yX2_canMove, Cond.static yX2_canMove, Cond.code yX2_canMove cX2_canMove 7 (some .boolean), Cond.methodLink RX2 13 yX2_countAt, Cond.methodLink RX2 17 yX4_canEnter, Cond.static yX4_canEnter, Cond.initialized RX4, Cond.code yX4_canEnter cX4_canEnter 3 (some .boolean), Cond.methodLink RX5 80 yX2_canBeTaken, Cond.static yX2_canBeTaken, Cond.code yX2_canBeTaken cX2_canBeTaken 3 (some .boolean), Cond.methodLink RX2 21 yX4_isShared, Cond.static yX4_isShared, Cond.code yX4_isShared cX4_isShared 1 (some .boolean), Cond.methodLink RL 21 yL_takes, Cond.static yL_takes, Cond.code yL_takes cL_takes 3 (some .boolean), Cond.methodLink RL 100 yX5_moveAt, Cond.instanceMethod yX5_moveAt]
def wsL_isSo_r4 : List Cond := [Cond.selects RX5 yX5_moveAt yX5_moveAt, Cond.code yX5_moveAt cX5_moveAt 4 (some .int), Cond.methodLink RL 103 yX5_moves, Cond.instanceMethod yX5_moves, Cond.selects RX5 yX5_moves yX5_moves, Cond.code yX5_moves cX5_moves 1 (some .int), Cond.methodLink RX5 55 yX5_countMoves, Cond.instanceMethod yX5_countMoves, Cond.selects RX5 yX5_countMoves yX5_countMoves, Cond.code yX5_countMoves cX5_countMoves 8 (some .int), Cond.methodLink RL 106 yX5_progress, Cond.instanceMethod yX5_progress, Cond.selects RX5 yX5_progress yX5_progress, Cond.code yX5_progress cX5_progress 2 (some .int), Cond.methodLink RX5 98 yX2_sumOfPlaces, Cond.static yX2_sumOfPlaces, Cond.code yX2_sumOfPlaces cX2_sumOfPlaces 4 (some .int), Cond.methodLink RL 33 yL_progress, Cond.static yL_progress, Cond.code yL_progress cL_progress 4 (some .int), Cond.methodLink RL 108 yX5_captured, Cond.instanceMethod yX5_captured, Cond.selects RX5 yX5_captured yX5_captured, Cond.code yX5_captured cX5_captured 2 (some .int)]
def wsL_isSo_r5 : List Cond := [Cond.fieldLink RX5 84 "RoyalUrTable$Side" "lost" "I"]
def wsL_isSo : List Cond := .code yL_isSo cL_isSo 7 (some .boolean) :: ((wsL_isSo_r1 ++ (wsL_isSo_r2 ++ (wsL_isSo_r3 ++ (wsL_isSo_r4 ++ wsL_isSo_r5)))) ++ wsX50 ++ wsX30 ++ (vx_at0 RX5 110 "java/lang/IllegalArgumentException" ["java/lang/RuntimeException", "java/lang/Exception"]).filter goodWord)
def wsL_begin : List Cond := .code yL_begin cL_begin 4 none :: ([])
def wsL_turn_r1 : List Cond := [Cond.methodLink RL 111 yL_low, Cond.static yL_low, Cond.initialized RL, Cond.code yL_low cL_low 2 (some .int), Cond.constant RL 9 (2147483647), Cond.methodLink RL 37 yL_can, Cond.static yL_can, Cond.code yL_can cL_can 6 (some .boolean), Cond.methodLink RL 114 yL_tells, Cond.static yL_tells, Cond.codeWith yL_tells cL_tells 3 (some .int) [(0, 5, 6, 16)], Cond.classLink RL 16 "java/lang/IllegalStateException", Cond.methodLink RL 10 yX5_tell, Cond.instanceMethod yX5_tell, Cond.selects RX5 yX5_tell yX5_tell, Cond.initialized RX5, Cond.code yX5_tell cX5_tell 3 (some .int), Cond.classLink RX5 49 "java/lang/IllegalStateException", Cond.initialized "java/lang/IllegalStateException", Cond.fieldLink RX5 42 "RoyalUrTable" "winner" "I", Cond.fieldLink RX5 46 "RoyalUrTable" "marksTold" "I", Cond.fieldLink RX5 52 "RoyalUrTable" "throwsTold" "I", Cond.fieldLink RX5 59 "RoyalUrTable" "turn" "I", Cond.methodLink RX5 36 yX5_refuseOutside]
def wsL_turn_r2 : List Cond := [Cond.static yX5_refuseOutside, Cond.code yX5_refuseOutside cX5_refuseOutside 3 none, Cond.classLink RX5 108 "java/lang/IllegalArgumentException", Cond.initialized "java/lang/IllegalArgumentException", Cond.methodLink RX5 55 yX5_countMoves, Cond.instanceMethod yX5_countMoves, Cond.selects RX5 yX5_countMoves yX5_countMoves, Cond.code yX5_countMoves cX5_countMoves 8 (some .int), Cond.fieldLink RX5 70 "RoyalUrTable$Side" "layout" "J", Cond.methodLink RX5 66 yX5_sideOf, Cond.instanceMethod yX5_sideOf, Cond.selects RX5 yX5_sideOf yX5_sideOf, Cond.code yX5_sideOf cX5_sideOf 2 (some (.object "RoyalUrTable$Side")), Cond.fieldLink RX5 10 "RoyalUrTable" "side0" "LRoyalUrTable$Side;", Cond.fieldLink RX5 16 "RoyalUrTable" "side1" "LRoyalUrTable$Side;", Cond.methodLink RX5 142 yX2_canMove, Cond.static yX2_canMove, Cond.initialized RX2, Cond.code yX2_canMove cX2_canMove 7 (some .boolean), Cond.methodLink RX2 13 yX2_countAt, Cond.static yX2_countAt, Cond.code yX2_countAt cX2_countAt 3 (some .int), Cond.methodLink RX2 17 yX4_canEnter, Cond.static yX4_canEnter]
def wsL_turn_r3 : List Cond := [Cond.initialized RX4, Cond.code yX4_canEnter cX4_canEnter 3 (some .boolean), Cond.methodLink RL 118 yL_moves, Cond.static yL_moves, Cond.codeWith yL_moves cL_moves 3 (some .int) [(0, 5, 6, 16)], Cond.methodLink RL 18 yX5_move, Cond.instanceMethod yX5_move, Cond.selects RX5 yX5_move yX5_move, Cond.code yX5_move cX5_move 5 (some .int), Cond.fieldLink RX5 84 "RoyalUrTable$Side" "lost" "I", Cond.methodLink RX5 62 yX5_canMoveFrom, Cond.instanceMethod yX5_canMoveFrom, Cond.selects RX5 yX5_canMoveFrom yX5_canMoveFrom, Cond.code yX5_canMoveFrom cX5_canMoveFrom 2 (some .boolean), Cond.methodLink RX5 74 yX2_shifted, Cond.static yX2_shifted, Cond.code yX2_shifted cX2_shifted 4 (some .long), Cond.methodLink RX5 80 yX2_canBeTaken, Cond.static yX2_canBeTaken, Cond.code yX2_canBeTaken cX2_canBeTaken 3 (some .boolean), Cond.methodLink RX2 21 yX4_isShared, Cond.static yX4_isShared, Cond.code yX4_isShared cX4_isShared 1 (some .boolean), Cond.methodLink RX5 87 yX2_isAllHome]
def wsL_turn_r4 : List Cond := [Cond.static yX2_isAllHome, Cond.code yX2_isAllHome cX2_isAllHome 2 (some .boolean), Cond.constantLong RX2 11 (1152921504606846975), Cond.methodLink RX5 91 yX4_isRosette, Cond.static yX4_isRosette, Cond.code yX4_isRosette cX4_isRosette 1 (some .boolean), Cond.methodLink RL 21 yL_takes, Cond.static yL_takes, Cond.code yL_takes cL_takes 3 (some .boolean), Cond.methodLink RL 45 yL_shift, Cond.static yL_shift, Cond.code yL_shift cL_shift 5 none, Cond.methodLink RL 49 yL_after, Cond.static yL_after, Cond.code yL_after cL_after 2 (some .int)]
def wsL_turn : List Cond := .code yL_turn cL_turn 9 (some .boolean) :: ((wsL_turn_r1 ++ (wsL_turn_r2 ++ (wsL_turn_r3 ++ wsL_turn_r4))) ++ wsX50 ++ wsX30 ++ (vx_at0 RX5 51 "java/lang/IllegalStateException" ["java/lang/RuntimeException", "java/lang/Exception"]).filter goodWord ++ (vx_at0 RX5 110 "java/lang/IllegalArgumentException" ["java/lang/RuntimeException", "java/lang/Exception"]).filter goodWord)
def wsL_law0_r1 : List Cond := [Cond.classLink RL 11 RX5, Cond.instantiable RX5 9, Cond.initialized RX5, Cond.arrayClass .int, Cond.methodLink RL 120 yX5_init, Cond.instanceMethod yX5_init, Cond.code yX5_init cX5_init 1 none, Cond.methodLink RX5 1 objectInit, Cond.instanceMethod objectInit, Cond.code objectInit ⟨#[0xb1]⟩ 1 none, Cond.classLink RX5 7 RX3, Cond.instantiable RX3 2, Cond.initialized RX3, Cond.fieldLink RX5 10 "RoyalUrTable" "side0" "LRoyalUrTable$Side;", Cond.fieldLink RX5 16 "RoyalUrTable" "side1" "LRoyalUrTable$Side;", Cond.classLink RX5 19 RX1, Cond.instantiable RX1 2, Cond.initialized RX1, Cond.fieldLink RX5 22 "RoyalUrTable" "endings" "LRoyalUrTable$Endings;", Cond.fieldLink RX5 28 "RoyalUrTable" "worthsBehind" "[I", Cond.instanceMethod yX3_init, Cond.code yX3_init cX3_init 1 none, Cond.methodLink RX3 1 objectInit, Cond.methodLink RX5 21 yX1_init]
def wsL_law0_r2 : List Cond := [Cond.instanceMethod yX1_init, Cond.code yX1_init cX1_init 1 none, Cond.methodLink RX1 5 objectInit, Cond.fieldLink RX1 13 "RoyalUrTable$Endings" "worths" "[I", Cond.methodLink RX5 32 yX5_setUp, Cond.instanceMethod yX5_setUp, Cond.selects RX5 yX5_setUp yX5_setUp, Cond.code yX5_setUp cX5_setUp 2 none, Cond.fieldLink RX5 135 "RoyalUrTable" "piecesOfEach" "I", Cond.fieldLink RX5 70 "RoyalUrTable$Side" "layout" "J", Cond.fieldLink RX5 84 "RoyalUrTable$Side" "lost" "I", Cond.fieldLink RX5 59 "RoyalUrTable" "turn" "I", Cond.fieldLink RX5 46 "RoyalUrTable" "marksTold" "I", Cond.fieldLink RX5 42 "RoyalUrTable" "winner" "I", Cond.fieldLink RX5 52 "RoyalUrTable" "throwsTold" "I", Cond.methodLink RX5 138 yX2_allAtStart, Cond.static yX2_allAtStart, Cond.initialized RX2, Cond.code yX2_allAtStart cX2_allAtStart 1 (some .long), Cond.methodLink RL 121 yL_begin, Cond.static yL_begin, Cond.initialized RL, Cond.code yL_begin cL_begin 4 none, Cond.methodLink RL 125 yL_cell]
def wsL_law0_r3 : List Cond := [Cond.static yL_cell, Cond.code yL_cell cL_cell 2 (some .int), Cond.constant RL 7 (49711), Cond.constant RL 8 (2919955), Cond.methodLink RL 111 yL_low, Cond.static yL_low, Cond.code yL_low cL_low 2 (some .int), Cond.constant RL 9 (2147483647), Cond.methodLink RL 128 yX5_begin, Cond.instanceMethod yX5_begin, Cond.selects RX5 yX5_begin yX5_begin, Cond.code yX5_begin cX5_begin 2 none, Cond.methodLink RX5 36 yX5_refuseOutside, Cond.static yX5_refuseOutside, Cond.code yX5_refuseOutside cX5_refuseOutside 3 none, Cond.classLink RX5 108 "java/lang/IllegalArgumentException", Cond.initialized "java/lang/IllegalArgumentException", Cond.methodLink RL 131 yL_turn, Cond.static yL_turn, Cond.code yL_turn cL_turn 9 (some .boolean), Cond.methodLink RL 37 yL_can, Cond.static yL_can, Cond.code yL_can cL_can 6 (some .boolean), Cond.methodLink RL 114 yL_tells]
def wsL_law0_r4 : List Cond := [Cond.static yL_tells, Cond.codeWith yL_tells cL_tells 3 (some .int) [(0, 5, 6, 16)], Cond.classLink RL 16 "java/lang/IllegalStateException", Cond.methodLink RL 10 yX5_tell, Cond.instanceMethod yX5_tell, Cond.selects RX5 yX5_tell yX5_tell, Cond.code yX5_tell cX5_tell 3 (some .int), Cond.classLink RX5 49 "java/lang/IllegalStateException", Cond.initialized "java/lang/IllegalStateException", Cond.methodLink RX5 55 yX5_countMoves, Cond.instanceMethod yX5_countMoves, Cond.selects RX5 yX5_countMoves yX5_countMoves, Cond.code yX5_countMoves cX5_countMoves 8 (some .int), Cond.methodLink RX5 66 yX5_sideOf, Cond.instanceMethod yX5_sideOf, Cond.selects RX5 yX5_sideOf yX5_sideOf, Cond.code yX5_sideOf cX5_sideOf 2 (some (.object "RoyalUrTable$Side")), Cond.methodLink RX5 142 yX2_canMove, Cond.static yX2_canMove, Cond.code yX2_canMove cX2_canMove 7 (some .boolean), Cond.methodLink RX2 13 yX2_countAt, Cond.static yX2_countAt, Cond.code yX2_countAt cX2_countAt 3 (some .int), Cond.methodLink RX2 17 yX4_canEnter]
def wsL_law0_r5 : List Cond := [Cond.static yX4_canEnter, Cond.initialized RX4, Cond.code yX4_canEnter cX4_canEnter 3 (some .boolean), Cond.methodLink RL 118 yL_moves, Cond.static yL_moves, Cond.codeWith yL_moves cL_moves 3 (some .int) [(0, 5, 6, 16)], Cond.methodLink RL 18 yX5_move, Cond.instanceMethod yX5_move, Cond.selects RX5 yX5_move yX5_move, Cond.code yX5_move cX5_move 5 (some .int), Cond.methodLink RX5 62 yX5_canMoveFrom, Cond.instanceMethod yX5_canMoveFrom, Cond.selects RX5 yX5_canMoveFrom yX5_canMoveFrom, Cond.code yX5_canMoveFrom cX5_canMoveFrom 2 (some .boolean), Cond.methodLink RX5 74 yX2_shifted, Cond.static yX2_shifted, Cond.code yX2_shifted cX2_shifted 4 (some .long), Cond.methodLink RX5 80 yX2_canBeTaken, Cond.static yX2_canBeTaken, Cond.code yX2_canBeTaken cX2_canBeTaken 3 (some .boolean), Cond.methodLink RX2 21 yX4_isShared, Cond.static yX4_isShared, Cond.code yX4_isShared cX4_isShared 1 (some .boolean), Cond.methodLink RX5 87 yX2_isAllHome]
def wsL_law0_r6 : List Cond := [Cond.static yX2_isAllHome, Cond.code yX2_isAllHome cX2_isAllHome 2 (some .boolean), Cond.constantLong RX2 11 (1152921504606846975), Cond.methodLink RX5 91 yX4_isRosette, Cond.static yX4_isRosette, Cond.code yX4_isRosette cX4_isRosette 1 (some .boolean), Cond.methodLink RL 21 yL_takes, Cond.static yL_takes, Cond.code yL_takes cL_takes 3 (some .boolean), Cond.methodLink RL 45 yL_shift, Cond.static yL_shift, Cond.code yL_shift cL_shift 5 none, Cond.methodLink RL 49 yL_after, Cond.static yL_after, Cond.code yL_after cL_after 2 (some .int), Cond.methodLink RL 134 yL_isSo, Cond.static yL_isSo, Cond.code yL_isSo cL_isSo 7 (some .boolean), Cond.methodLink RL 80 yX5_turn, Cond.instanceMethod yX5_turn, Cond.selects RX5 yX5_turn yX5_turn, Cond.code yX5_turn cX5_turn 1 (some .int), Cond.methodLink RL 84 yX5_marks, Cond.instanceMethod yX5_marks]
def wsL_law0_r7 : List Cond := [Cond.selects RX5 yX5_marks yX5_marks, Cond.code yX5_marks cX5_marks 1 (some .int), Cond.methodLink RL 87 yX5_winner, Cond.instanceMethod yX5_winner, Cond.selects RX5 yX5_winner yX5_winner, Cond.code yX5_winner cX5_winner 1 (some .int), Cond.methodLink RL 90 yX5_throwsTold, Cond.instanceMethod yX5_throwsTold, Cond.selects RX5 yX5_throwsTold yX5_throwsTold, Cond.code yX5_throwsTold cX5_throwsTold 1 (some .int), Cond.methodLink RL 93 yX5_at, Cond.instanceMethod yX5_at, Cond.selects RX5 yX5_at yX5_at, Cond.code yX5_at cX5_at 3 (some .int), Cond.methodLink RX5 94 yX2_countAt, Cond.methodLink RL 96 yX5_captures, Cond.instanceMethod yX5_captures, Cond.selects RX5 yX5_captures yX5_captures, Cond.code yX5_captures cX5_captures 2 (some .boolean), Cond.methodLink RL 100 yX5_moveAt, Cond.instanceMethod yX5_moveAt, Cond.selects RX5 yX5_moveAt yX5_moveAt, Cond.code yX5_moveAt cX5_moveAt 4 (some .int), Cond.methodLink RL 103 yX5_moves]
def wsL_law0_r8 : List Cond := [Cond.instanceMethod yX5_moves, Cond.selects RX5 yX5_moves yX5_moves, Cond.code yX5_moves cX5_moves 1 (some .int), Cond.methodLink RL 106 yX5_progress, Cond.instanceMethod yX5_progress, Cond.selects RX5 yX5_progress yX5_progress, Cond.code yX5_progress cX5_progress 2 (some .int), Cond.methodLink RX5 98 yX2_sumOfPlaces, Cond.static yX2_sumOfPlaces, Cond.code yX2_sumOfPlaces cX2_sumOfPlaces 4 (some .int), Cond.methodLink RL 33 yL_progress, Cond.static yL_progress, Cond.code yL_progress cL_progress 4 (some .int), Cond.methodLink RL 108 yX5_captured, Cond.instanceMethod yX5_captured, Cond.selects RX5 yX5_captured yX5_captured, Cond.code yX5_captured cX5_captured 2 (some .int), Cond.methodLink RL 138 yL_worths, Cond.static yL_worths, Cond.code yL_worths cL_worths 13 (some .boolean), Cond.constant RL 53 (1000000000), Cond.constantDouble RL 75 (4741671816366391296), Cond.methodLink RL 54 yL_plain, Cond.static yL_plain]
def wsL_law0_r9 : List Cond := [Cond.code yL_plain cL_plain 7 (some .int), Cond.constant RL 31 (500000000), Cond.constant RL 32 (4000000), Cond.methodLink RL 27 yX5_ending, Cond.instanceMethod yX5_ending, Cond.selects RX5 yX5_ending yX5_ending, Cond.code yX5_ending cX5_ending 4 (some .int), Cond.methodLink RX5 118 yX5_refuseEnding, Cond.static yX5_refuseEnding, Cond.code yX5_refuseEnding cX5_refuseEnding 2 none, Cond.methodLink RX5 132 yX4_isShared, Cond.methodLink RX5 122 yX1_fillUpTo, Cond.instanceMethod yX1_fillUpTo, Cond.selects RX1 yX1_fillUpTo yX1_fillUpTo, Cond.code yX1_fillUpTo cX1_fillUpTo 4 none, Cond.methodLink RX1 17 Lib.Math.min.name, Cond.static Lib.Math.min.name, Cond.initialized "java/lang/Math", Cond.code Lib.Math.min.name Lib.Math.min.code 2 (some .int), Cond.fieldLink RX1 23 "RoyalUrTable$Endings" "roundsHeld" "I", Cond.methodLink RX1 27 yX1_fillRow, Cond.instanceMethod yX1_fillRow, Cond.selects RX1 yX1_fillRow yX1_fillRow, Cond.code yX1_fillRow cX1_fillRow 5 none]
def wsL_law0_r10 : List Cond := [Cond.methodLink RX1 32 yX1_worthToThrow, Cond.instanceMethod yX1_worthToThrow, Cond.selects RX1 yX1_worthToThrow yX1_worthToThrow, Cond.code yX1_worthToThrow cX1_worthToThrow 8 (some .int), Cond.constantLong RX1 50 (16), Cond.methodLink RX1 36 yX1_held, Cond.instanceMethod yX1_held, Cond.selects RX1 yX1_held yX1_held, Cond.code yX1_held cX1_held 5 (some .int), Cond.constant RX1 31 (500000000), Cond.methodLink RX1 42 yX0_timesIn16, Cond.static yX0_timesIn16, Cond.initialized RX0, Cond.code yX0_timesIn16 cX0_timesIn16 1 (some .int), Cond.fieldLink RX0 7 "RoyalUrTable$Dice" "TIMES_IN_16" "[I", Cond.methodLink RX1 46 yX1_worthBehindThrow, Cond.instanceMethod yX1_worthBehindThrow, Cond.selects RX1 yX1_worthBehindThrow yX1_worthBehindThrow, Cond.code yX1_worthBehindThrow cX1_worthBehindThrow 8 (some .int), Cond.constant RX1 56 (1000000000), Cond.methodLink RX1 52 yX4_canEnter, Cond.methodLink RX1 57 yX4_isShared, Cond.methodLink RX1 61 yX4_isRosette, Cond.methodLink RX5 125 yX1_held]
def wsL_law0_r11 : List Cond := [Cond.methodLink RL 60 yL_ahead, Cond.static yL_ahead, Cond.code yL_ahead cL_ahead 12 (some .int), Cond.constantLong RL 58 (16), Cond.methodLink RL 41 yL_copy, Cond.static yL_copy, Cond.code yL_copy cL_copy 3 none, Cond.methodLink RL 64 yL_behind, Cond.static yL_behind, Cond.code yL_behind cL_behind 9 (some .int), Cond.methodLink RL 68 yX5_worth, Cond.instanceMethod yX5_worth, Cond.selects RX5 yX5_worth yX5_worth, Cond.code yX5_worth cX5_worth 3 (some .int), Cond.constant RX5 105 (1000000000), Cond.methodLink RX5 102 yX5_worthForTurn, Cond.instanceMethod yX5_worthForTurn, Cond.selects RX5 yX5_worthForTurn yX5_worthForTurn, Cond.code yX5_worthForTurn cX5_worthForTurn 6 (some .int), Cond.methodLink RX5 146 yX5_leadOfTurn, Cond.instanceMethod yX5_leadOfTurn, Cond.selects RX5 yX5_leadOfTurn yX5_leadOfTurn, Cond.code yX5_leadOfTurn cX5_leadOfTurn 1 (some .int), Cond.methodLink RX5 150 yX5_worthToThrow]
def wsL_law0_r12 : List Cond := [Cond.instanceMethod yX5_worthToThrow, Cond.selects RX5 yX5_worthToThrow yX5_worthToThrow, Cond.code yX5_worthToThrow cX5_worthToThrow 10 (some .int), Cond.constantLong RX5 169 (16), Cond.methodLink RX5 162 yX5_worthAtOnce, Cond.instanceMethod yX5_worthAtOnce, Cond.selects RX5 yX5_worthAtOnce yX5_worthAtOnce, Cond.code yX5_worthAtOnce cX5_worthAtOnce 7 (some .int), Cond.constant RX5 179 (500000000), Cond.constant RX5 180 (4000000), Cond.methodLink RX5 171 Lib.Math.max.name, Cond.static Lib.Math.max.name, Cond.code Lib.Math.max.name Lib.Math.max.code 2 (some .int), Cond.constant RX5 181 (999999999), Cond.methodLink RX5 182 Lib.Math.min.name, Cond.methodLink RX5 176 yX2_firstPlace, Cond.static yX2_firstPlace, Cond.code yX2_firstPlace cX2_firstPlace 3 (some .int), Cond.methodLink RX5 166 yX0_timesIn16, Cond.methodLink RX5 154 yX5_worthBehindThrow, Cond.instanceMethod yX5_worthBehindThrow, Cond.selects RX5 yX5_worthBehindThrow yX5_worthBehindThrow, Cond.code yX5_worthBehindMove cX5_worthBehindMove 15 (some .int), Cond.code yX5_worthBehindThrow cX5_worthBehindThrow 10 (some .int)]
def wsL_law0_r13 : List Cond := [Cond.methodLink RX5 158 yX5_worthBehindMove, Cond.instanceMethod yX5_worthBehindMove, Cond.selects RX5 yX5_worthBehindMove yX5_worthBehindMove, Cond.methodLink RL 71 yX5_chance, Cond.instanceMethod yX5_chance, Cond.selects RX5 yX5_chance yX5_chance, Cond.code yX5_chance cX5_chance 2 (some .double), Cond.constantDouble RX5 106 (4741671816366391296), Cond.methodLink RL 77 yX5_ranked, Cond.instanceMethod yX5_ranked, Cond.selects RX5 yX5_ranked yX5_ranked, Cond.code yX5_ranked cX5_ranked 5 (some .int), Cond.methodLink RX5 111 yX5_noteWorthsBehind, Cond.instanceMethod yX5_noteWorthsBehind, Cond.selects RX5 yX5_noteWorthsBehind yX5_noteWorthsBehind, Cond.code yX5_noteWorthsBehind cX5_noteWorthsBehind 8 none, Cond.methodLink RX5 114 yX5_countBetter, Cond.instanceMethod yX5_countBetter, Cond.selects RX5 yX5_countBetter yX5_countBetter, Cond.code yX5_countBetter cX5_countBetter 5 (some .int)]
def wsL_law0 : List Cond := (wsL_law0_r1 ++ (wsL_law0_r2 ++ (wsL_law0_r3 ++ (wsL_law0_r4 ++ (wsL_law0_r5 ++ (wsL_law0_r6 ++ (wsL_law0_r7 ++ (wsL_law0_r8 ++ (wsL_law0_r9 ++ (wsL_law0_r10 ++ (wsL_law0_r11 ++ (wsL_law0_r12 ++ wsL_law0_r13)))))))))))) ++ wsX50 ++ wsX30 ++ wsX10 ++ ([] : List Cond)
def wsL_law : List Cond := wsL_law0 ++ (vx_at0 RX5 110 "java/lang/IllegalArgumentException" ["java/lang/RuntimeException", "java/lang/Exception"]).filter goodWord ++ (vx_at0 RX5 51 "java/lang/IllegalStateException" ["java/lang/RuntimeException", "java/lang/Exception"]).filter goodWord
abbrev vwCl : List vw_C := [(RX1, TX1, 2), (RX3, TX3, 2), (RX5, TX5, 9)]
end
section
theorem dX0_timesIn16_0 : decode cX0_timesIn16 0 = .ok (.iload_n 0, 1) := by decide +kernel
theorem dX0_timesIn16_1 : decode cX0_timesIn16 1 = .ok (.ifCond .lt 11, 3) := by decide +kernel
theorem dX0_timesIn16_4 : decode cX0_timesIn16 4 = .ok (.iload_n 0, 1) := by decide +kernel
theorem dX0_timesIn16_5 : decode cX0_timesIn16 5 = .ok (.getstatic 7, 3) := by decide +kernel
theorem dX0_timesIn16_8 : decode cX0_timesIn16 8 = .ok (.arraylength, 1) := by decide +kernel
theorem dX0_timesIn16_9 : decode cX0_timesIn16 9 = .ok (.if_icmp .lt 7, 3) := by decide +kernel
theorem dX0_timesIn16_12 : decode cX0_timesIn16 12 = .ok (.iconst 0, 1) := by decide +kernel
theorem dX0_timesIn16_13 : decode cX0_timesIn16 13 = .ok (.goto 8, 3) := by decide +kernel
theorem dX0_timesIn16_16 : decode cX0_timesIn16 16 = .ok (.getstatic 7, 3) := by decide +kernel
theorem dX0_timesIn16_19 : decode cX0_timesIn16 19 = .ok (.iload_n 0, 1) := by decide +kernel
theorem dX0_timesIn16_20 : decode cX0_timesIn16 20 = .ok (.iaload, 1) := by decide +kernel
theorem dX0_timesIn16_21 : decode cX0_timesIn16 21 = .ok (.ireturn, 1) := by decide +kernel
theorem dX1_init_0 : decode cX1_init 0 = .ok (.aload_n 0, 1) := by decide +kernel
theorem dX1_init_1 : decode cX1_init 1 = .ok (.invokespecial 5, 3) := by decide +kernel
theorem dX1_init_4 : decode cX1_init 4 = .ok (.aload_n 0, 1) := by decide +kernel
theorem dX1_init_5 : decode cX1_init 5 = .ok (.sipush 13500, 3) := by decide +kernel
theorem dX1_init_8 : decode cX1_init 8 = .ok (.newarray .int, 2) := by decide +kernel
theorem dX1_init_10 : decode cX1_init 10 = .ok (.putfield 13, 3) := by decide +kernel
theorem dX1_init_13 : decode cX1_init 13 = .ok (.return_, 1) := by decide +kernel
set_option maxRecDepth 20000 in
theorem ggX1_fillUpTo_X1_fillRow : GoodIn wsX1_fillUpTo wsX1_fillRow := goodIn_r _ [10, 11, 12, 13, 14, 9, 15, 16, 17, 18, 19, 20, 21, 22, 23, 24, 25, 26, 27, 28, 29, 30, 31, 32, 33, 34, 35, 36, 37, 38, 39, 40, 41, 42, 43] (by decide +kernel) (by decide +kernel)
set_option maxRecDepth 20000 in
theorem gX1_fillUpTo_X1_fillRow : GoodIn wsX1_fillUpTo (wsV RX1 27 RX1 yX1_fillRow wsX1_fillRow) := goodIn_app (goodIn_of _ (by decide +kernel)) ggX1_fillUpTo_X1_fillRow
theorem dX1_fillUpTo_0 : decode cX1_fillUpTo 0 = .ok (.iload_n 1, 1) := by decide +kernel
theorem dX1_fillUpTo_1 : decode cX1_fillUpTo 1 = .ok (.bipush 60, 2) := by decide +kernel
theorem dX1_fillUpTo_3 : decode cX1_fillUpTo 3 = .ok (.invokestatic 17, 3) := by decide +kernel
theorem dX1_fillUpTo_6 : decode cX1_fillUpTo 6 = .ok (.istore_n 2, 1) := by decide +kernel
theorem dX1_fillUpTo_7 : decode cX1_fillUpTo 7 = .ok (.aload_n 0, 1) := by decide +kernel
theorem dX1_fillUpTo_8 : decode cX1_fillUpTo 8 = .ok (.getfield 23, 3) := by decide +kernel
theorem dX1_fillUpTo_11 : decode cX1_fillUpTo 11 = .ok (.iconst 1, 1) := by decide +kernel
theorem dX1_fillUpTo_12 : decode cX1_fillUpTo 12 = .ok (.iadd, 1) := by decide +kernel
theorem dX1_fillUpTo_13 : decode cX1_fillUpTo 13 = .ok (.istore_n 3, 1) := by decide +kernel
theorem dX1_fillUpTo_14 : decode cX1_fillUpTo 14 = .ok (.iload_n 3, 1) := by decide +kernel
theorem dX1_fillUpTo_15 : decode cX1_fillUpTo 15 = .ok (.iload_n 2, 1) := by decide +kernel
theorem dX1_fillUpTo_16 : decode cX1_fillUpTo 16 = .ok (.if_icmp .gt 19, 3) := by decide +kernel
theorem dX1_fillUpTo_19 : decode cX1_fillUpTo 19 = .ok (.aload_n 0, 1) := by decide +kernel
theorem dX1_fillUpTo_20 : decode cX1_fillUpTo 20 = .ok (.iload_n 3, 1) := by decide +kernel
theorem dX1_fillUpTo_21 : decode cX1_fillUpTo 21 = .ok (.invokevirtual 27, 3) := by decide +kernel
theorem dX1_fillUpTo_24 : decode cX1_fillUpTo 24 = .ok (.aload_n 0, 1) := by decide +kernel
theorem dX1_fillUpTo_25 : decode cX1_fillUpTo 25 = .ok (.iload_n 3, 1) := by decide +kernel
theorem dX1_fillUpTo_26 : decode cX1_fillUpTo 26 = .ok (.putfield 23, 3) := by decide +kernel
theorem dX1_fillUpTo_29 : decode cX1_fillUpTo 29 = .ok (.iinc 3 1, 3) := by decide +kernel
theorem dX1_fillUpTo_32 : decode cX1_fillUpTo 32 = .ok (.goto (-18), 3) := by decide +kernel
theorem dX1_fillUpTo_35 : decode cX1_fillUpTo 35 = .ok (.return_, 1) := by decide +kernel
theorem dX1_held_0 : decode cX1_held 0 = .ok (.iload_n 3, 1) := by decide +kernel
theorem dX1_held_1 : decode cX1_held 1 = .ok (.ifCond .gt 6, 3) := by decide +kernel
theorem dX1_held_4 : decode cX1_held 4 = .ok (.ldc 31, 2) := by decide +kernel
theorem dX1_held_6 : decode cX1_held 6 = .ok (.ireturn, 1) := by decide +kernel
theorem dX1_held_7 : decode cX1_held 7 = .ok (.iload_n 3, 1) := by decide +kernel
theorem dX1_held_8 : decode cX1_held 8 = .ok (.iconst 1, 1) := by decide +kernel
theorem dX1_held_9 : decode cX1_held 9 = .ok (.isub, 1) := by decide +kernel
theorem dX1_held_10 : decode cX1_held 10 = .ok (.sipush 225, 3) := by decide +kernel
theorem dX1_held_13 : decode cX1_held 13 = .ok (.imul, 1) := by decide +kernel
theorem dX1_held_14 : decode cX1_held 14 = .ok (.iload_n 1, 1) := by decide +kernel
theorem dX1_held_15 : decode cX1_held 15 = .ok (.bipush 15, 2) := by decide +kernel
theorem dX1_held_17 : decode cX1_held 17 = .ok (.imul, 1) := by decide +kernel
theorem dX1_held_18 : decode cX1_held 18 = .ok (.iadd, 1) := by decide +kernel
theorem dX1_held_19 : decode cX1_held 19 = .ok (.iload_n 2, 1) := by decide +kernel
theorem dX1_held_20 : decode cX1_held 20 = .ok (.iadd, 1) := by decide +kernel
theorem dX1_held_21 : decode cX1_held 21 = .ok (.istore 4, 2) := by decide +kernel
theorem dX1_held_23 : decode cX1_held 23 = .ok (.iload 4, 2) := by decide +kernel
theorem dX1_held_25 : decode cX1_held 25 = .ok (.ifCond .lt 13, 3) := by decide +kernel
theorem dX1_held_28 : decode cX1_held 28 = .ok (.iload 4, 2) := by decide +kernel
theorem dX1_held_30 : decode cX1_held 30 = .ok (.aload_n 0, 1) := by decide +kernel
theorem dX1_held_31 : decode cX1_held 31 = .ok (.getfield 13, 3) := by decide +kernel
theorem dX1_held_34 : decode cX1_held 34 = .ok (.arraylength, 1) := by decide +kernel
theorem dX1_held_35 : decode cX1_held 35 = .ok (.if_icmp .lt 8, 3) := by decide +kernel
theorem dX1_held_38 : decode cX1_held 38 = .ok (.ldc 31, 2) := by decide +kernel
theorem dX1_held_40 : decode cX1_held 40 = .ok (.goto 10, 3) := by decide +kernel
theorem dX1_held_43 : decode cX1_held 43 = .ok (.aload_n 0, 1) := by decide +kernel
theorem dX1_held_44 : decode cX1_held 44 = .ok (.getfield 13, 3) := by decide +kernel
theorem dX1_held_47 : decode cX1_held 47 = .ok (.iload 4, 2) := by decide +kernel
theorem dX1_held_49 : decode cX1_held 49 = .ok (.iaload, 1) := by decide +kernel
theorem dX1_held_50 : decode cX1_held 50 = .ok (.ireturn, 1) := by decide +kernel
set_option maxRecDepth 20000 in
theorem ggX1_fillRow_X1_worthToThrow : GoodIn wsX1_fillRow wsX1_worthToThrow := goodIn_r _ [6, 7, 8, 9, 10, 5, 11, 12, 1, 13, 14, 15, 16, 17, 18, 19, 20, 21, 22, 23, 24, 25, 26, 2, 3, 4, 27, 28, 29, 30, 31, 32, 33, 34] (by decide +kernel) (by decide +kernel)
set_option maxRecDepth 20000 in
theorem gX1_fillRow_X1_worthToThrow : GoodIn wsX1_fillRow (wsV RX1 32 RX1 yX1_worthToThrow wsX1_worthToThrow) := goodIn_app (goodIn_of _ (by decide +kernel)) ggX1_fillRow_X1_worthToThrow
theorem dX1_fillRow_0 : decode cX1_fillRow 0 = .ok (.iload_n 1, 1) := by decide +kernel
theorem dX1_fillRow_1 : decode cX1_fillRow 1 = .ok (.iconst 1, 1) := by decide +kernel
theorem dX1_fillRow_2 : decode cX1_fillRow 2 = .ok (.isub, 1) := by decide +kernel
theorem dX1_fillRow_3 : decode cX1_fillRow 3 = .ok (.sipush 225, 3) := by decide +kernel
theorem dX1_fillRow_6 : decode cX1_fillRow 6 = .ok (.imul, 1) := by decide +kernel
theorem dX1_fillRow_7 : decode cX1_fillRow 7 = .ok (.istore_n 2, 1) := by decide +kernel
theorem dX1_fillRow_8 : decode cX1_fillRow 8 = .ok (.iconst 0, 1) := by decide +kernel
theorem dX1_fillRow_9 : decode cX1_fillRow 9 = .ok (.istore_n 3, 1) := by decide +kernel
theorem dX1_fillRow_10 : decode cX1_fillRow 10 = .ok (.iload_n 3, 1) := by decide +kernel
theorem dX1_fillRow_11 : decode cX1_fillRow 11 = .ok (.bipush 15, 2) := by decide +kernel
theorem dX1_fillRow_13 : decode cX1_fillRow 13 = .ok (.if_icmp .ge 58, 3) := by decide +kernel
theorem dX1_fillRow_16 : decode cX1_fillRow 16 = .ok (.iconst 0, 1) := by decide +kernel
theorem dX1_fillRow_17 : decode cX1_fillRow 17 = .ok (.istore 4, 2) := by decide +kernel
theorem dX1_fillRow_19 : decode cX1_fillRow 19 = .ok (.iload 4, 2) := by decide +kernel
theorem dX1_fillRow_21 : decode cX1_fillRow 21 = .ok (.bipush 15, 2) := by decide +kernel
theorem dX1_fillRow_23 : decode cX1_fillRow 23 = .ok (.if_icmp .ge 42, 3) := by decide +kernel
theorem dX1_fillRow_26 : decode cX1_fillRow 26 = .ok (.iload_n 2, 1) := by decide +kernel
theorem dX1_fillRow_27 : decode cX1_fillRow 27 = .ok (.ifCond .lt 29, 3) := by decide +kernel
theorem dX1_fillRow_30 : decode cX1_fillRow 30 = .ok (.iload_n 2, 1) := by decide +kernel
theorem dX1_fillRow_31 : decode cX1_fillRow 31 = .ok (.aload_n 0, 1) := by decide +kernel
theorem dX1_fillRow_32 : decode cX1_fillRow 32 = .ok (.getfield 13, 3) := by decide +kernel
theorem dX1_fillRow_35 : decode cX1_fillRow 35 = .ok (.arraylength, 1) := by decide +kernel
theorem dX1_fillRow_36 : decode cX1_fillRow 36 = .ok (.if_icmp .ge 20, 3) := by decide +kernel
theorem dX1_fillRow_39 : decode cX1_fillRow 39 = .ok (.aload_n 0, 1) := by decide +kernel
theorem dX1_fillRow_40 : decode cX1_fillRow 40 = .ok (.getfield 13, 3) := by decide +kernel
theorem dX1_fillRow_43 : decode cX1_fillRow 43 = .ok (.iload_n 2, 1) := by decide +kernel
theorem dX1_fillRow_44 : decode cX1_fillRow 44 = .ok (.aload_n 0, 1) := by decide +kernel
theorem dX1_fillRow_45 : decode cX1_fillRow 45 = .ok (.iload_n 3, 1) := by decide +kernel
theorem dX1_fillRow_46 : decode cX1_fillRow 46 = .ok (.iload 4, 2) := by decide +kernel
theorem dX1_fillRow_48 : decode cX1_fillRow 48 = .ok (.iload_n 1, 1) := by decide +kernel
theorem dX1_fillRow_49 : decode cX1_fillRow 49 = .ok (.iload_n 1, 1) := by decide +kernel
theorem dX1_fillRow_50 : decode cX1_fillRow 50 = .ok (.iconst 1, 1) := by decide +kernel
theorem dX1_fillRow_51 : decode cX1_fillRow 51 = .ok (.isub, 1) := by decide +kernel
theorem dX1_fillRow_52 : decode cX1_fillRow 52 = .ok (.invokevirtual 32, 3) := by decide +kernel
theorem dX1_fillRow_55 : decode cX1_fillRow 55 = .ok (.iastore, 1) := by decide +kernel
theorem dX1_fillRow_56 : decode cX1_fillRow 56 = .ok (.iinc 2 1, 3) := by decide +kernel
theorem dX1_fillRow_59 : decode cX1_fillRow 59 = .ok (.iinc 4 1, 3) := by decide +kernel
theorem dX1_fillRow_62 : decode cX1_fillRow 62 = .ok (.goto (-43), 3) := by decide +kernel
theorem dX1_fillRow_65 : decode cX1_fillRow 65 = .ok (.iinc 3 1, 3) := by decide +kernel
theorem dX1_fillRow_68 : decode cX1_fillRow 68 = .ok (.goto (-58), 3) := by decide +kernel
theorem dX1_fillRow_71 : decode cX1_fillRow 71 = .ok (.return_, 1) := by decide +kernel
set_option maxRecDepth 20000 in
theorem ggX1_worthToThrow_X1_held : GoodIn wsX1_worthToThrow wsX1_held := goodIn_r _ [6, 7, 8, 32, 33] (by decide +kernel) (by decide +kernel)
set_option maxRecDepth 20000 in
theorem gX1_worthToThrow_X1_held : GoodIn wsX1_worthToThrow (wsV RX1 36 RX1 yX1_held wsX1_held) := goodIn_app (goodIn_of _ (by decide +kernel)) ggX1_worthToThrow_X1_held
set_option maxRecDepth 20000 in
theorem ggX1_worthToThrow_X0_timesIn16 : GoodIn wsX1_worthToThrow wsX0_timesIn16 := goodIn_r _ [12, 13] (by decide +kernel) (by decide +kernel)
set_option maxRecDepth 20000 in
theorem gX1_worthToThrow_X0_timesIn16 : GoodIn wsX1_worthToThrow (va_wsS RX1 42 yX0_timesIn16 wsX0_timesIn16) := goodIn_app (goodIn_of _ (by decide +kernel)) ggX1_worthToThrow_X0_timesIn16
set_option maxRecDepth 20000 in
theorem ggX1_worthToThrow_X1_worthBehindThrow : GoodIn wsX1_worthToThrow wsX1_worthBehindThrow := goodIn_r _ [17, 18, 19, 20, 21, 22, 23, 24, 25, 5, 26, 27, 28, 29, 30, 31, 0, 1, 2, 3, 4, 6, 7, 8, 9, 10, 11, 12, 13, 14, 15, 16, 32, 33] (by decide +kernel) (by decide +kernel)
set_option maxRecDepth 20000 in
theorem gX1_worthToThrow_X1_worthBehindThrow : GoodIn wsX1_worthToThrow (wsV RX1 46 RX1 yX1_worthBehindThrow wsX1_worthBehindThrow) := goodIn_app (goodIn_of _ (by decide +kernel)) ggX1_worthToThrow_X1_worthBehindThrow
theorem dX1_worthToThrow_0 : decode cX1_worthToThrow 0 = .ok (.iload_n 3, 1) := by decide +kernel
theorem dX1_worthToThrow_1 : decode cX1_worthToThrow 1 = .ok (.iload 4, 2) := by decide +kernel
theorem dX1_worthToThrow_3 : decode cX1_worthToThrow 3 = .ok (.if_icmp .gt 11, 3) := by decide +kernel
theorem dX1_worthToThrow_6 : decode cX1_worthToThrow 6 = .ok (.aload_n 0, 1) := by decide +kernel
theorem dX1_worthToThrow_7 : decode cX1_worthToThrow 7 = .ok (.iload_n 1, 1) := by decide +kernel
theorem dX1_worthToThrow_8 : decode cX1_worthToThrow 8 = .ok (.iload_n 2, 1) := by decide +kernel
theorem dX1_worthToThrow_9 : decode cX1_worthToThrow 9 = .ok (.iload_n 3, 1) := by decide +kernel
theorem dX1_worthToThrow_10 : decode cX1_worthToThrow 10 = .ok (.invokevirtual 36, 3) := by decide +kernel
theorem dX1_worthToThrow_13 : decode cX1_worthToThrow 13 = .ok (.ireturn, 1) := by decide +kernel
theorem dX1_worthToThrow_14 : decode cX1_worthToThrow 14 = .ok (.lconst 0, 1) := by decide +kernel
theorem dX1_worthToThrow_15 : decode cX1_worthToThrow 15 = .ok (.lstore 5, 2) := by decide +kernel
theorem dX1_worthToThrow_17 : decode cX1_worthToThrow 17 = .ok (.iconst 0, 1) := by decide +kernel
theorem dX1_worthToThrow_18 : decode cX1_worthToThrow 18 = .ok (.istore 7, 2) := by decide +kernel
theorem dX1_worthToThrow_20 : decode cX1_worthToThrow 20 = .ok (.iload 7, 2) := by decide +kernel
theorem dX1_worthToThrow_22 : decode cX1_worthToThrow 22 = .ok (.iconst 4, 1) := by decide +kernel
theorem dX1_worthToThrow_23 : decode cX1_worthToThrow 23 = .ok (.if_icmp .gt 35, 3) := by decide +kernel
theorem dX1_worthToThrow_26 : decode cX1_worthToThrow 26 = .ok (.lload 5, 2) := by decide +kernel
theorem dX1_worthToThrow_28 : decode cX1_worthToThrow 28 = .ok (.iload 7, 2) := by decide +kernel
theorem dX1_worthToThrow_30 : decode cX1_worthToThrow 30 = .ok (.invokestatic 42, 3) := by decide +kernel
theorem dX1_worthToThrow_33 : decode cX1_worthToThrow 33 = .ok (.i2l, 1) := by decide +kernel
theorem dX1_worthToThrow_34 : decode cX1_worthToThrow 34 = .ok (.aload_n 0, 1) := by decide +kernel
theorem dX1_worthToThrow_35 : decode cX1_worthToThrow 35 = .ok (.iload_n 1, 1) := by decide +kernel
theorem dX1_worthToThrow_36 : decode cX1_worthToThrow 36 = .ok (.iload_n 2, 1) := by decide +kernel
theorem dX1_worthToThrow_37 : decode cX1_worthToThrow 37 = .ok (.iload 7, 2) := by decide +kernel
theorem dX1_worthToThrow_39 : decode cX1_worthToThrow 39 = .ok (.iload_n 3, 1) := by decide +kernel
theorem dX1_worthToThrow_40 : decode cX1_worthToThrow 40 = .ok (.iconst 1, 1) := by decide +kernel
theorem dX1_worthToThrow_41 : decode cX1_worthToThrow 41 = .ok (.isub, 1) := by decide +kernel
theorem dX1_worthToThrow_42 : decode cX1_worthToThrow 42 = .ok (.iload 4, 2) := by decide +kernel
theorem dX1_worthToThrow_44 : decode cX1_worthToThrow 44 = .ok (.invokevirtual 46, 3) := by decide +kernel
theorem dX1_worthToThrow_47 : decode cX1_worthToThrow 47 = .ok (.i2l, 1) := by decide +kernel
theorem dX1_worthToThrow_48 : decode cX1_worthToThrow 48 = .ok (.lmul, 1) := by decide +kernel
theorem dX1_worthToThrow_49 : decode cX1_worthToThrow 49 = .ok (.ladd, 1) := by decide +kernel
theorem dX1_worthToThrow_50 : decode cX1_worthToThrow 50 = .ok (.lstore 5, 2) := by decide +kernel
theorem dX1_worthToThrow_52 : decode cX1_worthToThrow 52 = .ok (.iinc 7 1, 3) := by decide +kernel
theorem dX1_worthToThrow_55 : decode cX1_worthToThrow 55 = .ok (.goto (-35), 3) := by decide +kernel
theorem dX1_worthToThrow_58 : decode cX1_worthToThrow 58 = .ok (.lload 5, 2) := by decide +kernel
theorem dX1_worthToThrow_60 : decode cX1_worthToThrow 60 = .ok (.ldc2_w 50, 3) := by decide +kernel
theorem dX1_worthToThrow_63 : decode cX1_worthToThrow 63 = .ok (.ldiv, 1) := by decide +kernel
theorem dX1_worthToThrow_64 : decode cX1_worthToThrow 64 = .ok (.l2i, 1) := by decide +kernel
theorem dX1_worthToThrow_65 : decode cX1_worthToThrow 65 = .ok (.ireturn, 1) := by decide +kernel
set_option maxRecDepth 20000 in
theorem ggX1_worthBehindThrow_X4_canEnter : GoodIn wsX1_worthBehindThrow wsX4_canEnter := goodIn_r _ [5] (by decide +kernel) (by decide +kernel)
set_option maxRecDepth 20000 in
theorem gX1_worthBehindThrow_X4_canEnter : GoodIn wsX1_worthBehindThrow (va_wsS RX1 52 yX4_canEnter wsX4_canEnter) := goodIn_app (goodIn_of _ (by decide +kernel)) ggX1_worthBehindThrow_X4_canEnter
set_option maxRecDepth 20000 in
theorem ggX1_worthBehindThrow_X1_worthToThrow : GoodIn wsX1_worthBehindThrow wsX1_worthToThrow := goodIn_r _ [16, 17, 18, 19, 20, 9, 21, 22, 23, 24, 25, 26, 27, 28, 29, 30, 31, 0, 1, 2, 3, 4, 5, 6, 7, 8, 10, 11, 12, 13, 14, 15, 32, 33] (by decide +kernel) (by decide +kernel)
set_option maxRecDepth 20000 in
theorem gX1_worthBehindThrow_X1_worthToThrow : GoodIn wsX1_worthBehindThrow (wsV RX1 32 RX1 yX1_worthToThrow wsX1_worthToThrow) := goodIn_app (goodIn_of _ (by decide +kernel)) ggX1_worthBehindThrow_X1_worthToThrow
set_option maxRecDepth 20000 in
theorem ggX1_worthBehindThrow_X4_isShared : GoodIn wsX1_worthBehindThrow wsX4_isShared := goodIn_r _ [12] (by decide +kernel) (by decide +kernel)
set_option maxRecDepth 20000 in
theorem gX1_worthBehindThrow_X4_isShared : GoodIn wsX1_worthBehindThrow (va_wsS RX1 57 yX4_isShared wsX4_isShared) := goodIn_app (goodIn_of _ (by decide +kernel)) ggX1_worthBehindThrow_X4_isShared
set_option maxRecDepth 20000 in
theorem ggX1_worthBehindThrow_X4_isRosette : GoodIn wsX1_worthBehindThrow wsX4_isRosette := goodIn_r _ [15] (by decide +kernel) (by decide +kernel)
set_option maxRecDepth 20000 in
theorem gX1_worthBehindThrow_X4_isRosette : GoodIn wsX1_worthBehindThrow (va_wsS RX1 61 yX4_isRosette wsX4_isRosette) := goodIn_app (goodIn_of _ (by decide +kernel)) ggX1_worthBehindThrow_X4_isRosette
theorem dX1_worthBehindThrow_0 : decode cX1_worthBehindThrow 0 = .ok (.iload_n 1, 1) := by decide +kernel
theorem dX1_worthBehindThrow_1 : decode cX1_worthBehindThrow 1 = .ok (.iload_n 3, 1) := by decide +kernel
theorem dX1_worthBehindThrow_2 : decode cX1_worthBehindThrow 2 = .ok (.iadd, 1) := by decide +kernel
theorem dX1_worthBehindThrow_3 : decode cX1_worthBehindThrow 3 = .ok (.istore 6, 2) := by decide +kernel
theorem dX1_worthBehindThrow_5 : decode cX1_worthBehindThrow 5 = .ok (.iload_n 3, 1) := by decide +kernel
theorem dX1_worthBehindThrow_6 : decode cX1_worthBehindThrow 6 = .ok (.ifCond .eq 23, 3) := by decide +kernel
theorem dX1_worthBehindThrow_9 : decode cX1_worthBehindThrow 9 = .ok (.iload 6, 2) := by decide +kernel
theorem dX1_worthBehindThrow_11 : decode cX1_worthBehindThrow 11 = .ok (.iconst 0, 1) := by decide +kernel
theorem dX1_worthBehindThrow_12 : decode cX1_worthBehindThrow 12 = .ok (.iload_n 2, 1) := by decide +kernel
theorem dX1_worthBehindThrow_13 : decode cX1_worthBehindThrow 13 = .ok (.iload 6, 2) := by decide +kernel
theorem dX1_worthBehindThrow_15 : decode cX1_worthBehindThrow 15 = .ok (.if_icmp .ne 7, 3) := by decide +kernel
theorem dX1_worthBehindThrow_18 : decode cX1_worthBehindThrow 18 = .ok (.iconst 1, 1) := by decide +kernel
theorem dX1_worthBehindThrow_19 : decode cX1_worthBehindThrow 19 = .ok (.goto 4, 3) := by decide +kernel
theorem dX1_worthBehindThrow_22 : decode cX1_worthBehindThrow 22 = .ok (.iconst 0, 1) := by decide +kernel
theorem dX1_worthBehindThrow_23 : decode cX1_worthBehindThrow 23 = .ok (.invokestatic 52, 3) := by decide +kernel
theorem dX1_worthBehindThrow_26 : decode cX1_worthBehindThrow 26 = .ok (.ifCond .ne 17, 3) := by decide +kernel
theorem dX1_worthBehindThrow_29 : decode cX1_worthBehindThrow 29 = .ok (.ldc 56, 2) := by decide +kernel
theorem dX1_worthBehindThrow_31 : decode cX1_worthBehindThrow 31 = .ok (.aload_n 0, 1) := by decide +kernel
theorem dX1_worthBehindThrow_32 : decode cX1_worthBehindThrow 32 = .ok (.iload_n 2, 1) := by decide +kernel
theorem dX1_worthBehindThrow_33 : decode cX1_worthBehindThrow 33 = .ok (.iload_n 1, 1) := by decide +kernel
theorem dX1_worthBehindThrow_34 : decode cX1_worthBehindThrow 34 = .ok (.iload 4, 2) := by decide +kernel
theorem dX1_worthBehindThrow_36 : decode cX1_worthBehindThrow 36 = .ok (.iload 5, 2) := by decide +kernel
theorem dX1_worthBehindThrow_38 : decode cX1_worthBehindThrow 38 = .ok (.invokevirtual 32, 3) := by decide +kernel
theorem dX1_worthBehindThrow_41 : decode cX1_worthBehindThrow 41 = .ok (.isub, 1) := by decide +kernel
theorem dX1_worthBehindThrow_42 : decode cX1_worthBehindThrow 42 = .ok (.ireturn, 1) := by decide +kernel
theorem dX1_worthBehindThrow_43 : decode cX1_worthBehindThrow 43 = .ok (.iload 6, 2) := by decide +kernel
theorem dX1_worthBehindThrow_45 : decode cX1_worthBehindThrow 45 = .ok (.bipush 15, 2) := by decide +kernel
theorem dX1_worthBehindThrow_47 : decode cX1_worthBehindThrow 47 = .ok (.if_icmp .ne 6, 3) := by decide +kernel
theorem dX1_worthBehindThrow_50 : decode cX1_worthBehindThrow 50 = .ok (.ldc 56, 2) := by decide +kernel
theorem dX1_worthBehindThrow_52 : decode cX1_worthBehindThrow 52 = .ok (.ireturn, 1) := by decide +kernel
theorem dX1_worthBehindThrow_53 : decode cX1_worthBehindThrow 53 = .ok (.iload_n 2, 1) := by decide +kernel
theorem dX1_worthBehindThrow_54 : decode cX1_worthBehindThrow 54 = .ok (.iload 6, 2) := by decide +kernel
theorem dX1_worthBehindThrow_56 : decode cX1_worthBehindThrow 56 = .ok (.if_icmp .ne 15, 3) := by decide +kernel
theorem dX1_worthBehindThrow_59 : decode cX1_worthBehindThrow 59 = .ok (.iload 6, 2) := by decide +kernel
theorem dX1_worthBehindThrow_61 : decode cX1_worthBehindThrow 61 = .ok (.invokestatic 57, 3) := by decide +kernel
theorem dX1_worthBehindThrow_64 : decode cX1_worthBehindThrow 64 = .ok (.ifCond .eq 7, 3) := by decide +kernel
theorem dX1_worthBehindThrow_67 : decode cX1_worthBehindThrow 67 = .ok (.iconst 0, 1) := by decide +kernel
theorem dX1_worthBehindThrow_68 : decode cX1_worthBehindThrow 68 = .ok (.goto 4, 3) := by decide +kernel
theorem dX1_worthBehindThrow_71 : decode cX1_worthBehindThrow 71 = .ok (.iload_n 2, 1) := by decide +kernel
theorem dX1_worthBehindThrow_72 : decode cX1_worthBehindThrow 72 = .ok (.istore 7, 2) := by decide +kernel
theorem dX1_worthBehindThrow_74 : decode cX1_worthBehindThrow 74 = .ok (.iload 6, 2) := by decide +kernel
theorem dX1_worthBehindThrow_76 : decode cX1_worthBehindThrow 76 = .ok (.invokestatic 61, 3) := by decide +kernel
theorem dX1_worthBehindThrow_79 : decode cX1_worthBehindThrow 79 = .ok (.ifCond .eq 16, 3) := by decide +kernel
theorem dX1_worthBehindThrow_82 : decode cX1_worthBehindThrow 82 = .ok (.aload_n 0, 1) := by decide +kernel
theorem dX1_worthBehindThrow_83 : decode cX1_worthBehindThrow 83 = .ok (.iload 6, 2) := by decide +kernel
theorem dX1_worthBehindThrow_85 : decode cX1_worthBehindThrow 85 = .ok (.iload 7, 2) := by decide +kernel
theorem dX1_worthBehindThrow_87 : decode cX1_worthBehindThrow 87 = .ok (.iload 4, 2) := by decide +kernel
theorem dX1_worthBehindThrow_89 : decode cX1_worthBehindThrow 89 = .ok (.iload 5, 2) := by decide +kernel
theorem dX1_worthBehindThrow_91 : decode cX1_worthBehindThrow 91 = .ok (.invokevirtual 32, 3) := by decide +kernel
theorem dX1_worthBehindThrow_94 : decode cX1_worthBehindThrow 94 = .ok (.ireturn, 1) := by decide +kernel
theorem dX1_worthBehindThrow_95 : decode cX1_worthBehindThrow 95 = .ok (.ldc 56, 2) := by decide +kernel
theorem dX1_worthBehindThrow_97 : decode cX1_worthBehindThrow 97 = .ok (.aload_n 0, 1) := by decide +kernel
theorem dX1_worthBehindThrow_98 : decode cX1_worthBehindThrow 98 = .ok (.iload 7, 2) := by decide +kernel
theorem dX1_worthBehindThrow_100 : decode cX1_worthBehindThrow 100 = .ok (.iload 6, 2) := by decide +kernel
theorem dX1_worthBehindThrow_102 : decode cX1_worthBehindThrow 102 = .ok (.iload 4, 2) := by decide +kernel
theorem dX1_worthBehindThrow_104 : decode cX1_worthBehindThrow 104 = .ok (.iload 5, 2) := by decide +kernel
theorem dX1_worthBehindThrow_106 : decode cX1_worthBehindThrow 106 = .ok (.invokevirtual 32, 3) := by decide +kernel
theorem dX1_worthBehindThrow_109 : decode cX1_worthBehindThrow 109 = .ok (.isub, 1) := by decide +kernel
theorem dX1_worthBehindThrow_110 : decode cX1_worthBehindThrow 110 = .ok (.ireturn, 1) := by decide +kernel
theorem dX2_allAtStart_0 : decode cX2_allAtStart 0 = .ok (.iload_n 0, 1) := by decide +kernel
theorem dX2_allAtStart_1 : decode cX2_allAtStart 1 = .ok (.i2l, 1) := by decide +kernel
theorem dX2_allAtStart_2 : decode cX2_allAtStart 2 = .ok (.lreturn, 1) := by decide +kernel
theorem dX2_countAt_0 : decode cX2_countAt 0 = .ok (.iload_n 2, 1) := by decide +kernel
theorem dX2_countAt_1 : decode cX2_countAt 1 = .ok (.ifCond .lt 9, 3) := by decide +kernel
theorem dX2_countAt_4 : decode cX2_countAt 4 = .ok (.iload_n 2, 1) := by decide +kernel
theorem dX2_countAt_5 : decode cX2_countAt 5 = .ok (.bipush 15, 2) := by decide +kernel
theorem dX2_countAt_7 : decode cX2_countAt 7 = .ok (.if_icmp .le 7, 3) := by decide +kernel
theorem dX2_countAt_10 : decode cX2_countAt 10 = .ok (.iconst 0, 1) := by decide +kernel
theorem dX2_countAt_11 : decode cX2_countAt 11 = .ok (.goto 12, 3) := by decide +kernel
theorem dX2_countAt_14 : decode cX2_countAt 14 = .ok (.lload_n 0, 1) := by decide +kernel
theorem dX2_countAt_15 : decode cX2_countAt 15 = .ok (.iconst 4, 1) := by decide +kernel
theorem dX2_countAt_16 : decode cX2_countAt 16 = .ok (.iload_n 2, 1) := by decide +kernel
theorem dX2_countAt_17 : decode cX2_countAt 17 = .ok (.imul, 1) := by decide +kernel
theorem dX2_countAt_18 : decode cX2_countAt 18 = .ok (.lushr, 1) := by decide +kernel
theorem dX2_countAt_19 : decode cX2_countAt 19 = .ok (.l2i, 1) := by decide +kernel
theorem dX2_countAt_20 : decode cX2_countAt 20 = .ok (.bipush 15, 2) := by decide +kernel
theorem dX2_countAt_22 : decode cX2_countAt 22 = .ok (.iand, 1) := by decide +kernel
theorem dX2_countAt_23 : decode cX2_countAt 23 = .ok (.ireturn, 1) := by decide +kernel
theorem dX2_shifted_0 : decode cX2_shifted 0 = .ok (.lload_n 0, 1) := by decide +kernel
theorem dX2_shifted_1 : decode cX2_shifted 1 = .ok (.lconst 1, 1) := by decide +kernel
theorem dX2_shifted_2 : decode cX2_shifted 2 = .ok (.iconst 4, 1) := by decide +kernel
theorem dX2_shifted_3 : decode cX2_shifted 3 = .ok (.iload_n 2, 1) := by decide +kernel
theorem dX2_shifted_4 : decode cX2_shifted 4 = .ok (.imul, 1) := by decide +kernel
theorem dX2_shifted_5 : decode cX2_shifted 5 = .ok (.lshl, 1) := by decide +kernel
theorem dX2_shifted_6 : decode cX2_shifted 6 = .ok (.lsub, 1) := by decide +kernel
theorem dX2_shifted_7 : decode cX2_shifted 7 = .ok (.lconst 1, 1) := by decide +kernel
theorem dX2_shifted_8 : decode cX2_shifted 8 = .ok (.iconst 4, 1) := by decide +kernel
theorem dX2_shifted_9 : decode cX2_shifted 9 = .ok (.iload_n 3, 1) := by decide +kernel
theorem dX2_shifted_10 : decode cX2_shifted 10 = .ok (.imul, 1) := by decide +kernel
theorem dX2_shifted_11 : decode cX2_shifted 11 = .ok (.lshl, 1) := by decide +kernel
theorem dX2_shifted_12 : decode cX2_shifted 12 = .ok (.ladd, 1) := by decide +kernel
theorem dX2_shifted_13 : decode cX2_shifted 13 = .ok (.lreturn, 1) := by decide +kernel
theorem dX2_isAllHome_0 : decode cX2_isAllHome 0 = .ok (.lload_n 0, 1) := by decide +kernel
theorem dX2_isAllHome_1 : decode cX2_isAllHome 1 = .ok (.ldc2_w 11, 3) := by decide +kernel
theorem dX2_isAllHome_4 : decode cX2_isAllHome 4 = .ok (.land, 1) := by decide +kernel
theorem dX2_isAllHome_5 : decode cX2_isAllHome 5 = .ok (.lconst 0, 1) := by decide +kernel
theorem dX2_isAllHome_6 : decode cX2_isAllHome 6 = .ok (.lcmp, 1) := by decide +kernel
theorem dX2_isAllHome_7 : decode cX2_isAllHome 7 = .ok (.ifCond .ne 7, 3) := by decide +kernel
theorem dX2_isAllHome_10 : decode cX2_isAllHome 10 = .ok (.iconst 1, 1) := by decide +kernel
theorem dX2_isAllHome_11 : decode cX2_isAllHome 11 = .ok (.goto 4, 3) := by decide +kernel
theorem dX2_isAllHome_14 : decode cX2_isAllHome 14 = .ok (.iconst 0, 1) := by decide +kernel
theorem dX2_isAllHome_15 : decode cX2_isAllHome 15 = .ok (.ireturn, 1) := by decide +kernel
set_option maxRecDepth 20000 in
theorem ggX2_sumOfPlaces_X2_countAt : GoodIn wsX2_sumOfPlaces wsX2_countAt := goodIn_r _ [4] (by decide +kernel) (by decide +kernel)
set_option maxRecDepth 20000 in
theorem gX2_sumOfPlaces_X2_countAt : GoodIn wsX2_sumOfPlaces (va_wsS RX2 13 yX2_countAt wsX2_countAt) := goodIn_app (goodIn_of _ (by decide +kernel)) ggX2_sumOfPlaces_X2_countAt
theorem dX2_sumOfPlaces_0 : decode cX2_sumOfPlaces 0 = .ok (.iconst 0, 1) := by decide +kernel
theorem dX2_sumOfPlaces_1 : decode cX2_sumOfPlaces 1 = .ok (.istore_n 2, 1) := by decide +kernel
theorem dX2_sumOfPlaces_2 : decode cX2_sumOfPlaces 2 = .ok (.iconst 1, 1) := by decide +kernel
theorem dX2_sumOfPlaces_3 : decode cX2_sumOfPlaces 3 = .ok (.istore_n 3, 1) := by decide +kernel
theorem dX2_sumOfPlaces_4 : decode cX2_sumOfPlaces 4 = .ok (.iload_n 3, 1) := by decide +kernel
theorem dX2_sumOfPlaces_5 : decode cX2_sumOfPlaces 5 = .ok (.bipush 15, 2) := by decide +kernel
theorem dX2_sumOfPlaces_7 : decode cX2_sumOfPlaces 7 = .ok (.if_icmp .gt 19, 3) := by decide +kernel
theorem dX2_sumOfPlaces_10 : decode cX2_sumOfPlaces 10 = .ok (.iload_n 2, 1) := by decide +kernel
theorem dX2_sumOfPlaces_11 : decode cX2_sumOfPlaces 11 = .ok (.iload_n 3, 1) := by decide +kernel
theorem dX2_sumOfPlaces_12 : decode cX2_sumOfPlaces 12 = .ok (.lload_n 0, 1) := by decide +kernel
theorem dX2_sumOfPlaces_13 : decode cX2_sumOfPlaces 13 = .ok (.iload_n 3, 1) := by decide +kernel
theorem dX2_sumOfPlaces_14 : decode cX2_sumOfPlaces 14 = .ok (.invokestatic 13, 3) := by decide +kernel
theorem dX2_sumOfPlaces_17 : decode cX2_sumOfPlaces 17 = .ok (.imul, 1) := by decide +kernel
theorem dX2_sumOfPlaces_18 : decode cX2_sumOfPlaces 18 = .ok (.iadd, 1) := by decide +kernel
theorem dX2_sumOfPlaces_19 : decode cX2_sumOfPlaces 19 = .ok (.istore_n 2, 1) := by decide +kernel
theorem dX2_sumOfPlaces_20 : decode cX2_sumOfPlaces 20 = .ok (.iinc 3 1, 3) := by decide +kernel
theorem dX2_sumOfPlaces_23 : decode cX2_sumOfPlaces 23 = .ok (.goto (-19), 3) := by decide +kernel
theorem dX2_sumOfPlaces_26 : decode cX2_sumOfPlaces 26 = .ok (.iload_n 2, 1) := by decide +kernel
theorem dX2_sumOfPlaces_27 : decode cX2_sumOfPlaces 27 = .ok (.ireturn, 1) := by decide +kernel
set_option maxRecDepth 20000 in
theorem ggX2_firstPlace_X2_countAt : GoodIn wsX2_firstPlace wsX2_countAt := goodIn_r _ [4] (by decide +kernel) (by decide +kernel)
set_option maxRecDepth 20000 in
theorem gX2_firstPlace_X2_countAt : GoodIn wsX2_firstPlace (va_wsS RX2 13 yX2_countAt wsX2_countAt) := goodIn_app (goodIn_of _ (by decide +kernel)) ggX2_firstPlace_X2_countAt
theorem dX2_firstPlace_0 : decode cX2_firstPlace 0 = .ok (.iconst 0, 1) := by decide +kernel
theorem dX2_firstPlace_1 : decode cX2_firstPlace 1 = .ok (.istore_n 2, 1) := by decide +kernel
theorem dX2_firstPlace_2 : decode cX2_firstPlace 2 = .ok (.iload_n 2, 1) := by decide +kernel
theorem dX2_firstPlace_3 : decode cX2_firstPlace 3 = .ok (.bipush 15, 2) := by decide +kernel
theorem dX2_firstPlace_5 : decode cX2_firstPlace 5 = .ok (.if_icmp .ge 17, 3) := by decide +kernel
theorem dX2_firstPlace_8 : decode cX2_firstPlace 8 = .ok (.lload_n 0, 1) := by decide +kernel
theorem dX2_firstPlace_9 : decode cX2_firstPlace 9 = .ok (.iload_n 2, 1) := by decide +kernel
theorem dX2_firstPlace_10 : decode cX2_firstPlace 10 = .ok (.invokestatic 13, 3) := by decide +kernel
theorem dX2_firstPlace_13 : decode cX2_firstPlace 13 = .ok (.ifCond .ne 9, 3) := by decide +kernel
theorem dX2_firstPlace_16 : decode cX2_firstPlace 16 = .ok (.iinc 2 1, 3) := by decide +kernel
theorem dX2_firstPlace_19 : decode cX2_firstPlace 19 = .ok (.goto (-17), 3) := by decide +kernel
theorem dX2_firstPlace_22 : decode cX2_firstPlace 22 = .ok (.iload_n 2, 1) := by decide +kernel
theorem dX2_firstPlace_23 : decode cX2_firstPlace 23 = .ok (.ireturn, 1) := by decide +kernel
set_option maxRecDepth 20000 in
theorem ggX2_canMove_X2_countAt : GoodIn wsX2_canMove wsX2_countAt := goodIn_r _ [4] (by decide +kernel) (by decide +kernel)
set_option maxRecDepth 20000 in
theorem gX2_canMove_X2_countAt : GoodIn wsX2_canMove (va_wsS RX2 13 yX2_countAt wsX2_countAt) := goodIn_app (goodIn_of _ (by decide +kernel)) ggX2_canMove_X2_countAt
set_option maxRecDepth 20000 in
theorem ggX2_canMove_X4_canEnter : GoodIn wsX2_canMove wsX4_canEnter := goodIn_r _ [8] (by decide +kernel) (by decide +kernel)
set_option maxRecDepth 20000 in
theorem gX2_canMove_X4_canEnter : GoodIn wsX2_canMove (va_wsS RX2 17 yX4_canEnter wsX4_canEnter) := goodIn_app (goodIn_of _ (by decide +kernel)) ggX2_canMove_X4_canEnter
theorem dX2_canMove_0 : decode cX2_canMove 0 = .ok (.iload 5, 2) := by decide +kernel
theorem dX2_canMove_2 : decode cX2_canMove 2 = .ok (.ifCond .le 12, 3) := by decide +kernel
theorem dX2_canMove_5 : decode cX2_canMove 5 = .ok (.lload_n 0, 1) := by decide +kernel
theorem dX2_canMove_6 : decode cX2_canMove 6 = .ok (.iload 4, 2) := by decide +kernel
theorem dX2_canMove_8 : decode cX2_canMove 8 = .ok (.invokestatic 13, 3) := by decide +kernel
theorem dX2_canMove_11 : decode cX2_canMove 11 = .ok (.ifCond .ne 5, 3) := by decide +kernel
theorem dX2_canMove_14 : decode cX2_canMove 14 = .ok (.iconst 0, 1) := by decide +kernel
theorem dX2_canMove_15 : decode cX2_canMove 15 = .ok (.ireturn, 1) := by decide +kernel
theorem dX2_canMove_16 : decode cX2_canMove 16 = .ok (.iload 4, 2) := by decide +kernel
theorem dX2_canMove_18 : decode cX2_canMove 18 = .ok (.iload 5, 2) := by decide +kernel
theorem dX2_canMove_20 : decode cX2_canMove 20 = .ok (.iadd, 1) := by decide +kernel
theorem dX2_canMove_21 : decode cX2_canMove 21 = .ok (.istore 6, 2) := by decide +kernel
theorem dX2_canMove_23 : decode cX2_canMove 23 = .ok (.iload 6, 2) := by decide +kernel
theorem dX2_canMove_25 : decode cX2_canMove 25 = .ok (.lload_n 0, 1) := by decide +kernel
theorem dX2_canMove_26 : decode cX2_canMove 26 = .ok (.iload 6, 2) := by decide +kernel
theorem dX2_canMove_28 : decode cX2_canMove 28 = .ok (.invokestatic 13, 3) := by decide +kernel
theorem dX2_canMove_31 : decode cX2_canMove 31 = .ok (.ifCond .le 7, 3) := by decide +kernel
theorem dX2_canMove_34 : decode cX2_canMove 34 = .ok (.iconst 1, 1) := by decide +kernel
theorem dX2_canMove_35 : decode cX2_canMove 35 = .ok (.goto 4, 3) := by decide +kernel
theorem dX2_canMove_38 : decode cX2_canMove 38 = .ok (.iconst 0, 1) := by decide +kernel
theorem dX2_canMove_39 : decode cX2_canMove 39 = .ok (.lload_n 2, 1) := by decide +kernel
theorem dX2_canMove_40 : decode cX2_canMove 40 = .ok (.iload 6, 2) := by decide +kernel
theorem dX2_canMove_42 : decode cX2_canMove 42 = .ok (.invokestatic 13, 3) := by decide +kernel
theorem dX2_canMove_45 : decode cX2_canMove 45 = .ok (.ifCond .le 7, 3) := by decide +kernel
theorem dX2_canMove_48 : decode cX2_canMove 48 = .ok (.iconst 1, 1) := by decide +kernel
theorem dX2_canMove_49 : decode cX2_canMove 49 = .ok (.goto 4, 3) := by decide +kernel
theorem dX2_canMove_52 : decode cX2_canMove 52 = .ok (.iconst 0, 1) := by decide +kernel
theorem dX2_canMove_53 : decode cX2_canMove 53 = .ok (.invokestatic 17, 3) := by decide +kernel
theorem dX2_canMove_56 : decode cX2_canMove 56 = .ok (.ireturn, 1) := by decide +kernel
set_option maxRecDepth 20000 in
theorem ggX2_canBeTaken_X4_isShared : GoodIn wsX2_canBeTaken wsX4_isShared := goodIn_r _ [4] (by decide +kernel) (by decide +kernel)
set_option maxRecDepth 20000 in
theorem gX2_canBeTaken_X4_isShared : GoodIn wsX2_canBeTaken (va_wsS RX2 21 yX4_isShared wsX4_isShared) := goodIn_app (goodIn_of _ (by decide +kernel)) ggX2_canBeTaken_X4_isShared
set_option maxRecDepth 20000 in
theorem ggX2_canBeTaken_X2_countAt : GoodIn wsX2_canBeTaken wsX2_countAt := goodIn_r _ [8] (by decide +kernel) (by decide +kernel)
set_option maxRecDepth 20000 in
theorem gX2_canBeTaken_X2_countAt : GoodIn wsX2_canBeTaken (va_wsS RX2 13 yX2_countAt wsX2_countAt) := goodIn_app (goodIn_of _ (by decide +kernel)) ggX2_canBeTaken_X2_countAt
theorem dX2_canBeTaken_0 : decode cX2_canBeTaken 0 = .ok (.iload_n 2, 1) := by decide +kernel
theorem dX2_canBeTaken_1 : decode cX2_canBeTaken 1 = .ok (.invokestatic 21, 3) := by decide +kernel
theorem dX2_canBeTaken_4 : decode cX2_canBeTaken 4 = .ok (.ifCond .eq 15, 3) := by decide +kernel
theorem dX2_canBeTaken_7 : decode cX2_canBeTaken 7 = .ok (.lload_n 0, 1) := by decide +kernel
theorem dX2_canBeTaken_8 : decode cX2_canBeTaken 8 = .ok (.iload_n 2, 1) := by decide +kernel
theorem dX2_canBeTaken_9 : decode cX2_canBeTaken 9 = .ok (.invokestatic 13, 3) := by decide +kernel
theorem dX2_canBeTaken_12 : decode cX2_canBeTaken 12 = .ok (.ifCond .le 7, 3) := by decide +kernel
theorem dX2_canBeTaken_15 : decode cX2_canBeTaken 15 = .ok (.iconst 1, 1) := by decide +kernel
theorem dX2_canBeTaken_16 : decode cX2_canBeTaken 16 = .ok (.goto 4, 3) := by decide +kernel
theorem dX2_canBeTaken_19 : decode cX2_canBeTaken 19 = .ok (.iconst 0, 1) := by decide +kernel
theorem dX2_canBeTaken_20 : decode cX2_canBeTaken 20 = .ok (.ireturn, 1) := by decide +kernel
theorem dX3_init_0 : decode cX3_init 0 = .ok (.aload_n 0, 1) := by decide +kernel
theorem dX3_init_1 : decode cX3_init 1 = .ok (.invokespecial 1, 3) := by decide +kernel
theorem dX3_init_4 : decode cX3_init 4 = .ok (.return_, 1) := by decide +kernel
theorem dX4_isRosette_0 : decode cX4_isRosette 0 = .ok (.iload_n 0, 1) := by decide +kernel
theorem dX4_isRosette_1 : decode cX4_isRosette 1 = .ok (.iconst 4, 1) := by decide +kernel
theorem dX4_isRosette_2 : decode cX4_isRosette 2 = .ok (.if_icmp .eq 15, 3) := by decide +kernel
theorem dX4_isRosette_5 : decode cX4_isRosette 5 = .ok (.iload_n 0, 1) := by decide +kernel
theorem dX4_isRosette_6 : decode cX4_isRosette 6 = .ok (.bipush 8, 2) := by decide +kernel
theorem dX4_isRosette_8 : decode cX4_isRosette 8 = .ok (.if_icmp .eq 9, 3) := by decide +kernel
theorem dX4_isRosette_11 : decode cX4_isRosette 11 = .ok (.iload_n 0, 1) := by decide +kernel
theorem dX4_isRosette_12 : decode cX4_isRosette 12 = .ok (.bipush 14, 2) := by decide +kernel
theorem dX4_isRosette_14 : decode cX4_isRosette 14 = .ok (.if_icmp .ne 7, 3) := by decide +kernel
theorem dX4_isRosette_17 : decode cX4_isRosette 17 = .ok (.iconst 1, 1) := by decide +kernel
theorem dX4_isRosette_18 : decode cX4_isRosette 18 = .ok (.goto 4, 3) := by decide +kernel
theorem dX4_isRosette_21 : decode cX4_isRosette 21 = .ok (.iconst 0, 1) := by decide +kernel
theorem dX4_isRosette_22 : decode cX4_isRosette 22 = .ok (.ireturn, 1) := by decide +kernel
theorem dX4_isShared_0 : decode cX4_isShared 0 = .ok (.iload_n 0, 1) := by decide +kernel
theorem dX4_isShared_1 : decode cX4_isShared 1 = .ok (.iconst 5, 1) := by decide +kernel
theorem dX4_isShared_2 : decode cX4_isShared 2 = .ok (.if_icmp .lt 13, 3) := by decide +kernel
theorem dX4_isShared_5 : decode cX4_isShared 5 = .ok (.iload_n 0, 1) := by decide +kernel
theorem dX4_isShared_6 : decode cX4_isShared 6 = .ok (.bipush 12, 2) := by decide +kernel
theorem dX4_isShared_8 : decode cX4_isShared 8 = .ok (.if_icmp .gt 7, 3) := by decide +kernel
theorem dX4_isShared_11 : decode cX4_isShared 11 = .ok (.iconst 1, 1) := by decide +kernel
theorem dX4_isShared_12 : decode cX4_isShared 12 = .ok (.goto 4, 3) := by decide +kernel
theorem dX4_isShared_15 : decode cX4_isShared 15 = .ok (.iconst 0, 1) := by decide +kernel
theorem dX4_isShared_16 : decode cX4_isShared 16 = .ok (.ireturn, 1) := by decide +kernel
theorem dX4_canEnter_0 : decode cX4_canEnter 0 = .ok (.iload_n 0, 1) := by decide +kernel
theorem dX4_canEnter_1 : decode cX4_canEnter 1 = .ok (.bipush 15, 2) := by decide +kernel
theorem dX4_canEnter_3 : decode cX4_canEnter 3 = .ok (.if_icmp .lt 15, 3) := by decide +kernel
theorem dX4_canEnter_6 : decode cX4_canEnter 6 = .ok (.iload_n 0, 1) := by decide +kernel
theorem dX4_canEnter_7 : decode cX4_canEnter 7 = .ok (.bipush 15, 2) := by decide +kernel
theorem dX4_canEnter_9 : decode cX4_canEnter 9 = .ok (.if_icmp .ne 7, 3) := by decide +kernel
theorem dX4_canEnter_12 : decode cX4_canEnter 12 = .ok (.iconst 1, 1) := by decide +kernel
theorem dX4_canEnter_13 : decode cX4_canEnter 13 = .ok (.goto 4, 3) := by decide +kernel
theorem dX4_canEnter_16 : decode cX4_canEnter 16 = .ok (.iconst 0, 1) := by decide +kernel
theorem dX4_canEnter_17 : decode cX4_canEnter 17 = .ok (.ireturn, 1) := by decide +kernel
theorem dX4_canEnter_18 : decode cX4_canEnter 18 = .ok (.iload_n 1, 1) := by decide +kernel
theorem dX4_canEnter_19 : decode cX4_canEnter 19 = .ok (.ifCond .ne 17, 3) := by decide +kernel
theorem dX4_canEnter_22 : decode cX4_canEnter 22 = .ok (.iload_n 2, 1) := by decide +kernel
theorem dX4_canEnter_23 : decode cX4_canEnter 23 = .ok (.ifCond .eq 9, 3) := by decide +kernel
theorem dX4_canEnter_26 : decode cX4_canEnter 26 = .ok (.iload_n 0, 1) := by decide +kernel
theorem dX4_canEnter_27 : decode cX4_canEnter 27 = .ok (.bipush 8, 2) := by decide +kernel
theorem dX4_canEnter_29 : decode cX4_canEnter 29 = .ok (.if_icmp .eq 7, 3) := by decide +kernel
theorem dX4_canEnter_32 : decode cX4_canEnter 32 = .ok (.iconst 1, 1) := by decide +kernel
theorem dX4_canEnter_33 : decode cX4_canEnter 33 = .ok (.goto 4, 3) := by decide +kernel
theorem dX4_canEnter_36 : decode cX4_canEnter 36 = .ok (.iconst 0, 1) := by decide +kernel
theorem dX4_canEnter_37 : decode cX4_canEnter 37 = .ok (.ireturn, 1) := by decide +kernel
set_option maxRecDepth 20000 in
theorem ggX5_init_X3_init : GoodIn wsX5_init wsX3_init := goodIn_r _ [16, 17, 2, 3] (by decide +kernel) (by decide +kernel)
set_option maxRecDepth 20000 in
theorem gX5_init_X3_init_n9 : GoodIn wsX5_init (wsX3_init) := ggX5_init_X3_init
set_option maxRecDepth 20000 in
theorem ggX5_init_X1_init : GoodIn wsX5_init wsX1_init := goodIn_r _ [20, 21, 2, 3, 13, 22, 50, 51] (by decide +kernel) (by decide +kernel)
set_option maxRecDepth 20000 in
theorem gX5_init_X1_init : GoodIn wsX5_init (wsX1_init) := ggX5_init_X1_init
set_option maxRecDepth 20000 in
theorem ggX5_init_X5_setUp : GoodIn wsX5_init wsX5_setUp := goodIn_r _ [27, 28, 7, 29, 8, 30, 31, 32, 33, 34, 35, 36, 37, 38, 41, 42, 43, 44, 45, 46, 47, 48, 49, 39, 40] (by decide +kernel) (by decide +kernel)
set_option maxRecDepth 20000 in
theorem gX5_init_X5_setUp : GoodIn wsX5_init (wsV RX5 32 RX5 yX5_setUp wsX5_setUp) := goodIn_app (goodIn_of _ (by decide +kernel)) ggX5_init_X5_setUp
theorem dX5_init_0 : decode cX5_init 0 = .ok (.aload_n 0, 1) := by decide +kernel
theorem dX5_init_1 : decode cX5_init 1 = .ok (.invokespecial 1, 3) := by decide +kernel
theorem dX5_init_4 : decode cX5_init 4 = .ok (.aload_n 0, 1) := by decide +kernel
theorem dX5_init_5 : decode cX5_init 5 = .ok (.new 7, 3) := by decide +kernel
theorem dX5_init_8 : decode cX5_init 8 = .ok (.dup, 1) := by decide +kernel
theorem dX5_init_9 : decode cX5_init 9 = .ok (.invokespecial 9, 3) := by decide +kernel
theorem dX5_init_12 : decode cX5_init 12 = .ok (.putfield 10, 3) := by decide +kernel
theorem dX5_init_15 : decode cX5_init 15 = .ok (.aload_n 0, 1) := by decide +kernel
theorem dX5_init_16 : decode cX5_init 16 = .ok (.new 7, 3) := by decide +kernel
theorem dX5_init_19 : decode cX5_init 19 = .ok (.dup, 1) := by decide +kernel
theorem dX5_init_20 : decode cX5_init 20 = .ok (.invokespecial 9, 3) := by decide +kernel
theorem dX5_init_23 : decode cX5_init 23 = .ok (.putfield 16, 3) := by decide +kernel
theorem dX5_init_26 : decode cX5_init 26 = .ok (.aload_n 0, 1) := by decide +kernel
theorem dX5_init_27 : decode cX5_init 27 = .ok (.new 19, 3) := by decide +kernel
theorem dX5_init_30 : decode cX5_init 30 = .ok (.dup, 1) := by decide +kernel
theorem dX5_init_31 : decode cX5_init 31 = .ok (.invokespecial 21, 3) := by decide +kernel
theorem dX5_init_34 : decode cX5_init 34 = .ok (.putfield 22, 3) := by decide +kernel
theorem dX5_init_37 : decode cX5_init 37 = .ok (.aload_n 0, 1) := by decide +kernel
theorem dX5_init_38 : decode cX5_init 38 = .ok (.bipush 15, 2) := by decide +kernel
theorem dX5_init_40 : decode cX5_init 40 = .ok (.newarray .int, 2) := by decide +kernel
theorem dX5_init_42 : decode cX5_init 42 = .ok (.putfield 28, 3) := by decide +kernel
theorem dX5_init_45 : decode cX5_init 45 = .ok (.aload_n 0, 1) := by decide +kernel
theorem dX5_init_46 : decode cX5_init 46 = .ok (.iconst 2, 1) := by decide +kernel
theorem dX5_init_47 : decode cX5_init 47 = .ok (.invokevirtual 32, 3) := by decide +kernel
theorem dX5_init_50 : decode cX5_init 50 = .ok (.return_, 1) := by decide +kernel
set_option maxRecDepth 20000 in
theorem ggX5_begin_X5_refuseOutside : GoodIn wsX5_begin wsX5_refuseOutside := goodIn_ca (goodIn_r _ [4, 5, 6] (by decide +kernel) (by decide +kernel)) (goodIn_sub (fun _ h => List.mem_cons_of_mem _ (List.mem_append_right _ h)) (by decide +kernel))
set_option maxRecDepth 20000 in
theorem gX5_begin_X5_refuseOutside : GoodIn wsX5_begin (va_wsS RX5 36 yX5_refuseOutside wsX5_refuseOutside) := goodIn_app (goodIn_of _ (by decide +kernel)) ggX5_begin_X5_refuseOutside
set_option maxRecDepth 20000 in
theorem ggX5_begin_X5_setUp : GoodIn wsX5_begin wsX5_setUp := goodIn_r _ [10, 11, 12, 13, 14, 15, 16, 17, 18, 19, 20, 21, 22, 23, 24, 25, 26, 27, 28, 29, 30, 31, 32, 33, 34] (by decide +kernel) (by decide +kernel)
set_option maxRecDepth 20000 in
theorem gX5_begin_X5_setUp : GoodIn wsX5_begin (wsV RX5 32 RX5 yX5_setUp wsX5_setUp) := goodIn_app (goodIn_of _ (by decide +kernel)) ggX5_begin_X5_setUp
theorem dX5_begin_0 : decode cX5_begin 0 = .ok (.iload_n 1, 1) := by decide +kernel
theorem dX5_begin_1 : decode cX5_begin 1 = .ok (.iconst 1, 1) := by decide +kernel
theorem dX5_begin_2 : decode cX5_begin 2 = .ok (.iconst 4, 1) := by decide +kernel
theorem dX5_begin_3 : decode cX5_begin 3 = .ok (.invokestatic 36, 3) := by decide +kernel
theorem dX5_begin_6 : decode cX5_begin 6 = .ok (.aload_n 0, 1) := by decide +kernel
theorem dX5_begin_7 : decode cX5_begin 7 = .ok (.iload_n 1, 1) := by decide +kernel
theorem dX5_begin_8 : decode cX5_begin 8 = .ok (.invokevirtual 32, 3) := by decide +kernel
theorem dX5_begin_11 : decode cX5_begin 11 = .ok (.return_, 1) := by decide +kernel
set_option maxRecDepth 20000 in
theorem ggX5_tell_X5_refuseOutside : GoodIn wsX5_tell wsX5_refuseOutside := goodIn_ca (goodIn_r _ [10, 11, 12] (by decide +kernel) (by decide +kernel)) (goodIn_sub (fun _ h => List.mem_cons_of_mem _ (List.mem_append_right _ h)) (by decide +kernel))
set_option maxRecDepth 20000 in
theorem gX5_tell_X5_refuseOutside : GoodIn wsX5_tell (va_wsS RX5 36 yX5_refuseOutside wsX5_refuseOutside) := goodIn_app (goodIn_of _ (by decide +kernel)) ggX5_tell_X5_refuseOutside
set_option maxRecDepth 20000 in
theorem ggX5_tell_X5_countMoves : GoodIn wsX5_tell wsX5_countMoves := goodIn_r _ [16, 6, 17, 18, 19, 20, 9, 21, 22, 23, 24, 25, 26, 27, 28, 29, 30, 31, 32, 33, 34, 35, 36, 37, 38, 39, 40, 41, 42, 43, 44, 45] (by decide +kernel) (by decide +kernel)
set_option maxRecDepth 20000 in
theorem gX5_tell_X5_countMoves : GoodIn wsX5_tell (wsV RX5 55 RX5 yX5_countMoves wsX5_countMoves) := goodIn_app (goodIn_of _ (by decide +kernel)) ggX5_tell_X5_countMoves
theorem dX5_tell_0 : decode cX5_tell 0 = .ok (.iload_n 1, 1) := by decide +kernel
theorem dX5_tell_1 : decode cX5_tell 1 = .ok (.iconst 0, 1) := by decide +kernel
theorem dX5_tell_2 : decode cX5_tell 2 = .ok (.iconst 4, 1) := by decide +kernel
theorem dX5_tell_3 : decode cX5_tell 3 = .ok (.invokestatic 36, 3) := by decide +kernel
theorem dX5_tell_6 : decode cX5_tell 6 = .ok (.aload_n 0, 1) := by decide +kernel
theorem dX5_tell_7 : decode cX5_tell 7 = .ok (.getfield 42, 3) := by decide +kernel
theorem dX5_tell_10 : decode cX5_tell 10 = .ok (.iconst (-1), 1) := by decide +kernel
theorem dX5_tell_11 : decode cX5_tell 11 = .ok (.if_icmp .ne 11, 3) := by decide +kernel
theorem dX5_tell_14 : decode cX5_tell 14 = .ok (.aload_n 0, 1) := by decide +kernel
theorem dX5_tell_15 : decode cX5_tell 15 = .ok (.getfield 46, 3) := by decide +kernel
theorem dX5_tell_18 : decode cX5_tell 18 = .ok (.iconst (-1), 1) := by decide +kernel
theorem dX5_tell_19 : decode cX5_tell 19 = .ok (.if_icmp .eq 11, 3) := by decide +kernel
theorem dX5_tell_22 : decode cX5_tell 22 = .ok (.new 49, 3) := by decide +kernel
theorem dX5_tell_25 : decode cX5_tell 25 = .ok (.dup, 1) := by decide +kernel
theorem dX5_tell_26 : decode cX5_tell 26 = .ok (.invokespecial 51, 3) := by decide +kernel
theorem dX5_tell_29 : decode cX5_tell 29 = .ok (.athrow, 1) := by decide +kernel
theorem dX5_tell_30 : decode cX5_tell 30 = .ok (.aload_n 0, 1) := by decide +kernel
theorem dX5_tell_31 : decode cX5_tell 31 = .ok (.dup, 1) := by decide +kernel
theorem dX5_tell_32 : decode cX5_tell 32 = .ok (.getfield 52, 3) := by decide +kernel
theorem dX5_tell_35 : decode cX5_tell 35 = .ok (.iconst 1, 1) := by decide +kernel
theorem dX5_tell_36 : decode cX5_tell 36 = .ok (.iadd, 1) := by decide +kernel
theorem dX5_tell_37 : decode cX5_tell 37 = .ok (.putfield 52, 3) := by decide +kernel
theorem dX5_tell_40 : decode cX5_tell 40 = .ok (.aload_n 0, 1) := by decide +kernel
theorem dX5_tell_41 : decode cX5_tell 41 = .ok (.iload_n 1, 1) := by decide +kernel
theorem dX5_tell_42 : decode cX5_tell 42 = .ok (.invokevirtual 55, 3) := by decide +kernel
theorem dX5_tell_45 : decode cX5_tell 45 = .ok (.istore_n 2, 1) := by decide +kernel
theorem dX5_tell_46 : decode cX5_tell 46 = .ok (.iload_n 2, 1) := by decide +kernel
theorem dX5_tell_47 : decode cX5_tell 47 = .ok (.ifCond .ne 16, 3) := by decide +kernel
theorem dX5_tell_50 : decode cX5_tell 50 = .ok (.aload_n 0, 1) := by decide +kernel
theorem dX5_tell_51 : decode cX5_tell 51 = .ok (.iconst 1, 1) := by decide +kernel
theorem dX5_tell_52 : decode cX5_tell 52 = .ok (.aload_n 0, 1) := by decide +kernel
theorem dX5_tell_53 : decode cX5_tell 53 = .ok (.getfield 59, 3) := by decide +kernel
theorem dX5_tell_56 : decode cX5_tell 56 = .ok (.isub, 1) := by decide +kernel
theorem dX5_tell_57 : decode cX5_tell 57 = .ok (.putfield 59, 3) := by decide +kernel
theorem dX5_tell_60 : decode cX5_tell 60 = .ok (.goto 8, 3) := by decide +kernel
theorem dX5_tell_63 : decode cX5_tell 63 = .ok (.aload_n 0, 1) := by decide +kernel
theorem dX5_tell_64 : decode cX5_tell 64 = .ok (.iload_n 1, 1) := by decide +kernel
theorem dX5_tell_65 : decode cX5_tell 65 = .ok (.putfield 46, 3) := by decide +kernel
theorem dX5_tell_68 : decode cX5_tell 68 = .ok (.iload_n 2, 1) := by decide +kernel
theorem dX5_tell_69 : decode cX5_tell 69 = .ok (.ireturn, 1) := by decide +kernel
set_option maxRecDepth 20000 in
theorem ggX5_move_X5_refuseOutside : GoodIn wsX5_move wsX5_refuseOutside := goodIn_ca (goodIn_r _ [11, 12, 13] (by decide +kernel) (by decide +kernel)) (goodIn_sub (fun _ h => List.mem_cons_of_mem _ (List.mem_append_right _ h)) (by decide +kernel))
set_option maxRecDepth 20000 in
theorem gX5_move_X5_refuseOutside : GoodIn wsX5_move (va_wsS RX5 36 yX5_refuseOutside wsX5_refuseOutside) := goodIn_app (goodIn_of _ (by decide +kernel)) ggX5_move_X5_refuseOutside
set_option maxRecDepth 20000 in
theorem ggX5_move_X5_canMoveFrom : GoodIn wsX5_move wsX5_canMoveFrom := goodIn_r _ [17, 4, 5, 3, 18, 19, 20, 10, 21, 22, 23, 24, 25, 26, 27, 28, 29, 30, 31, 32, 33, 34, 51, 52, 53, 54, 55, 56, 57, 58, 59, 60, 61] (by decide +kernel) (by decide +kernel)
set_option maxRecDepth 20000 in
theorem gX5_move_X5_canMoveFrom : GoodIn wsX5_move (wsV RX5 62 RX5 yX5_canMoveFrom wsX5_canMoveFrom) := goodIn_app (goodIn_of _ (by decide +kernel)) ggX5_move_X5_canMoveFrom
set_option maxRecDepth 20000 in
theorem ggX5_move_X5_sideOf : GoodIn wsX5_move wsX5_sideOf := goodIn_r _ [21, 22, 23, 51, 52, 53, 54, 55, 56, 57, 58, 59] (by decide +kernel) (by decide +kernel)
set_option maxRecDepth 20000 in
theorem gX5_move_X5_sideOf : GoodIn wsX5_move (wsV RX5 66 RX5 yX5_sideOf wsX5_sideOf) := goodIn_app (goodIn_of _ (by decide +kernel)) ggX5_move_X5_sideOf
set_option maxRecDepth 20000 in
theorem ggX5_move_X2_shifted : GoodIn wsX5_move wsX2_shifted := goodIn_r _ [37] (by decide +kernel) (by decide +kernel)
set_option maxRecDepth 20000 in
theorem gX5_move_X2_shifted : GoodIn wsX5_move (va_wsS RX5 74 yX2_shifted wsX2_shifted) := goodIn_app (goodIn_of _ (by decide +kernel)) ggX5_move_X2_shifted
set_option maxRecDepth 20000 in
theorem ggX5_move_X2_canBeTaken : GoodIn wsX5_move wsX2_canBeTaken := goodIn_r _ [40, 41, 42, 33, 43, 28, 29, 26, 30] (by decide +kernel) (by decide +kernel)
set_option maxRecDepth 20000 in
theorem gX5_move_X2_canBeTaken : GoodIn wsX5_move (va_wsS RX5 80 yX2_canBeTaken wsX2_canBeTaken) := goodIn_app (goodIn_of _ (by decide +kernel)) ggX5_move_X2_canBeTaken
set_option maxRecDepth 20000 in
theorem ggX5_move_X2_isAllHome : GoodIn wsX5_move wsX2_isAllHome := goodIn_r _ [46, 47] (by decide +kernel) (by decide +kernel)
set_option maxRecDepth 20000 in
theorem gX5_move_X2_isAllHome : GoodIn wsX5_move (va_wsS RX5 87 yX2_isAllHome wsX2_isAllHome) := goodIn_app (goodIn_of _ (by decide +kernel)) ggX5_move_X2_isAllHome
set_option maxRecDepth 20000 in
theorem ggX5_move_X4_isRosette : GoodIn wsX5_move wsX4_isRosette := goodIn_r _ [50] (by decide +kernel) (by decide +kernel)
set_option maxRecDepth 20000 in
theorem gX5_move_X4_isRosette : GoodIn wsX5_move (va_wsS RX5 91 yX4_isRosette wsX4_isRosette) := goodIn_app (goodIn_of _ (by decide +kernel)) ggX5_move_X4_isRosette
theorem dX5_move_0 : decode cX5_move 0 = .ok (.iload_n 1, 1) := by decide +kernel
theorem dX5_move_1 : decode cX5_move 1 = .ok (.iconst 0, 1) := by decide +kernel
theorem dX5_move_2 : decode cX5_move 2 = .ok (.bipush 14, 2) := by decide +kernel
theorem dX5_move_4 : decode cX5_move 4 = .ok (.invokestatic 36, 3) := by decide +kernel
theorem dX5_move_7 : decode cX5_move 7 = .ok (.aload_n 0, 1) := by decide +kernel
theorem dX5_move_8 : decode cX5_move 8 = .ok (.iload_n 1, 1) := by decide +kernel
theorem dX5_move_9 : decode cX5_move 9 = .ok (.invokevirtual 62, 3) := by decide +kernel
theorem dX5_move_12 : decode cX5_move 12 = .ok (.ifCond .ne 11, 3) := by decide +kernel
theorem dX5_move_15 : decode cX5_move 15 = .ok (.new 49, 3) := by decide +kernel
theorem dX5_move_18 : decode cX5_move 18 = .ok (.dup, 1) := by decide +kernel
theorem dX5_move_19 : decode cX5_move 19 = .ok (.invokespecial 51, 3) := by decide +kernel
theorem dX5_move_22 : decode cX5_move 22 = .ok (.athrow, 1) := by decide +kernel
theorem dX5_move_23 : decode cX5_move 23 = .ok (.iload_n 1, 1) := by decide +kernel
theorem dX5_move_24 : decode cX5_move 24 = .ok (.aload_n 0, 1) := by decide +kernel
theorem dX5_move_25 : decode cX5_move 25 = .ok (.getfield 46, 3) := by decide +kernel
theorem dX5_move_28 : decode cX5_move 28 = .ok (.iadd, 1) := by decide +kernel
theorem dX5_move_29 : decode cX5_move 29 = .ok (.istore_n 2, 1) := by decide +kernel
theorem dX5_move_30 : decode cX5_move 30 = .ok (.aload_n 0, 1) := by decide +kernel
theorem dX5_move_31 : decode cX5_move 31 = .ok (.aload_n 0, 1) := by decide +kernel
theorem dX5_move_32 : decode cX5_move 32 = .ok (.getfield 59, 3) := by decide +kernel
theorem dX5_move_35 : decode cX5_move 35 = .ok (.invokevirtual 66, 3) := by decide +kernel
theorem dX5_move_38 : decode cX5_move 38 = .ok (.astore_n 3, 1) := by decide +kernel
theorem dX5_move_39 : decode cX5_move 39 = .ok (.aload_n 0, 1) := by decide +kernel
theorem dX5_move_40 : decode cX5_move 40 = .ok (.iconst 1, 1) := by decide +kernel
theorem dX5_move_41 : decode cX5_move 41 = .ok (.aload_n 0, 1) := by decide +kernel
theorem dX5_move_42 : decode cX5_move 42 = .ok (.getfield 59, 3) := by decide +kernel
theorem dX5_move_45 : decode cX5_move 45 = .ok (.isub, 1) := by decide +kernel
theorem dX5_move_46 : decode cX5_move 46 = .ok (.invokevirtual 66, 3) := by decide +kernel
theorem dX5_move_49 : decode cX5_move 49 = .ok (.astore 4, 2) := by decide +kernel
theorem dX5_move_51 : decode cX5_move 51 = .ok (.aload_n 3, 1) := by decide +kernel
theorem dX5_move_52 : decode cX5_move 52 = .ok (.aload_n 3, 1) := by decide +kernel
theorem dX5_move_53 : decode cX5_move 53 = .ok (.getfield 70, 3) := by decide +kernel
theorem dX5_move_56 : decode cX5_move 56 = .ok (.iload_n 1, 1) := by decide +kernel
theorem dX5_move_57 : decode cX5_move 57 = .ok (.iload_n 2, 1) := by decide +kernel
theorem dX5_move_58 : decode cX5_move 58 = .ok (.invokestatic 74, 3) := by decide +kernel
theorem dX5_move_61 : decode cX5_move 61 = .ok (.putfield 70, 3) := by decide +kernel
theorem dX5_move_64 : decode cX5_move 64 = .ok (.aload 4, 2) := by decide +kernel
theorem dX5_move_66 : decode cX5_move 66 = .ok (.getfield 70, 3) := by decide +kernel
theorem dX5_move_69 : decode cX5_move 69 = .ok (.iload_n 2, 1) := by decide +kernel
theorem dX5_move_70 : decode cX5_move 70 = .ok (.invokestatic 80, 3) := by decide +kernel
theorem dX5_move_73 : decode cX5_move 73 = .ok (.ifCond .eq 29, 3) := by decide +kernel
theorem dX5_move_76 : decode cX5_move 76 = .ok (.aload 4, 2) := by decide +kernel
theorem dX5_move_78 : decode cX5_move 78 = .ok (.aload 4, 2) := by decide +kernel
theorem dX5_move_80 : decode cX5_move 80 = .ok (.getfield 70, 3) := by decide +kernel
theorem dX5_move_83 : decode cX5_move 83 = .ok (.iload_n 2, 1) := by decide +kernel
theorem dX5_move_84 : decode cX5_move 84 = .ok (.iconst 0, 1) := by decide +kernel
theorem dX5_move_85 : decode cX5_move 85 = .ok (.invokestatic 74, 3) := by decide +kernel
theorem dX5_move_88 : decode cX5_move 88 = .ok (.putfield 70, 3) := by decide +kernel
theorem dX5_move_91 : decode cX5_move 91 = .ok (.aload 4, 2) := by decide +kernel
theorem dX5_move_93 : decode cX5_move 93 = .ok (.dup, 1) := by decide +kernel
theorem dX5_move_94 : decode cX5_move 94 = .ok (.getfield 84, 3) := by decide +kernel
theorem dX5_move_97 : decode cX5_move 97 = .ok (.iconst 1, 1) := by decide +kernel
theorem dX5_move_98 : decode cX5_move 98 = .ok (.iadd, 1) := by decide +kernel
theorem dX5_move_99 : decode cX5_move 99 = .ok (.putfield 84, 3) := by decide +kernel
theorem dX5_move_102 : decode cX5_move 102 = .ok (.aload_n 3, 1) := by decide +kernel
theorem dX5_move_103 : decode cX5_move 103 = .ok (.getfield 70, 3) := by decide +kernel
theorem dX5_move_106 : decode cX5_move 106 = .ok (.invokestatic 87, 3) := by decide +kernel
theorem dX5_move_109 : decode cX5_move 109 = .ok (.ifCond .eq 11, 3) := by decide +kernel
theorem dX5_move_112 : decode cX5_move 112 = .ok (.aload_n 0, 1) := by decide +kernel
theorem dX5_move_113 : decode cX5_move 113 = .ok (.aload_n 0, 1) := by decide +kernel
theorem dX5_move_114 : decode cX5_move 114 = .ok (.getfield 59, 3) := by decide +kernel
theorem dX5_move_117 : decode cX5_move 117 = .ok (.putfield 42, 3) := by decide +kernel
theorem dX5_move_120 : decode cX5_move 120 = .ok (.iload_n 2, 1) := by decide +kernel
theorem dX5_move_121 : decode cX5_move 121 = .ok (.invokestatic 91, 3) := by decide +kernel
theorem dX5_move_124 : decode cX5_move 124 = .ok (.ifCond .ne 13, 3) := by decide +kernel
theorem dX5_move_127 : decode cX5_move 127 = .ok (.aload_n 0, 1) := by decide +kernel
theorem dX5_move_128 : decode cX5_move 128 = .ok (.iconst 1, 1) := by decide +kernel
theorem dX5_move_129 : decode cX5_move 129 = .ok (.aload_n 0, 1) := by decide +kernel
theorem dX5_move_130 : decode cX5_move 130 = .ok (.getfield 59, 3) := by decide +kernel
theorem dX5_move_133 : decode cX5_move 133 = .ok (.isub, 1) := by decide +kernel
theorem dX5_move_134 : decode cX5_move 134 = .ok (.putfield 59, 3) := by decide +kernel
theorem dX5_move_137 : decode cX5_move 137 = .ok (.aload_n 0, 1) := by decide +kernel
theorem dX5_move_138 : decode cX5_move 138 = .ok (.iconst (-1), 1) := by decide +kernel
theorem dX5_move_139 : decode cX5_move 139 = .ok (.putfield 46, 3) := by decide +kernel
theorem dX5_move_142 : decode cX5_move 142 = .ok (.iload_n 2, 1) := by decide +kernel
theorem dX5_move_143 : decode cX5_move 143 = .ok (.ireturn, 1) := by decide +kernel
theorem dX5_turn_0 : decode cX5_turn 0 = .ok (.aload_n 0, 1) := by decide +kernel
theorem dX5_turn_1 : decode cX5_turn 1 = .ok (.getfield 59, 3) := by decide +kernel
theorem dX5_turn_4 : decode cX5_turn 4 = .ok (.ireturn, 1) := by decide +kernel
theorem dX5_marks_0 : decode cX5_marks 0 = .ok (.aload_n 0, 1) := by decide +kernel
theorem dX5_marks_1 : decode cX5_marks 1 = .ok (.getfield 46, 3) := by decide +kernel
theorem dX5_marks_4 : decode cX5_marks 4 = .ok (.ireturn, 1) := by decide +kernel
theorem dX5_winner_0 : decode cX5_winner 0 = .ok (.aload_n 0, 1) := by decide +kernel
theorem dX5_winner_1 : decode cX5_winner 1 = .ok (.getfield 42, 3) := by decide +kernel
theorem dX5_winner_4 : decode cX5_winner 4 = .ok (.ireturn, 1) := by decide +kernel
set_option maxRecDepth 20000 in
theorem ggX5_at_X5_refuseOutside : GoodIn wsX5_at wsX5_refuseOutside := goodIn_ca (goodIn_r _ [5, 6, 7] (by decide +kernel) (by decide +kernel)) (goodIn_sub (fun _ h => List.mem_cons_of_mem _ (List.mem_append_right _ h)) (by decide +kernel))
set_option maxRecDepth 20000 in
theorem gX5_at_X5_refuseOutside : GoodIn wsX5_at (va_wsS RX5 36 yX5_refuseOutside wsX5_refuseOutside) := goodIn_app (goodIn_of _ (by decide +kernel)) ggX5_at_X5_refuseOutside
set_option maxRecDepth 20000 in
theorem ggX5_at_X5_sideOf : GoodIn wsX5_at wsX5_sideOf := goodIn_r _ [11, 12, 13, 20, 21, 22, 23, 24, 25, 26, 27, 28] (by decide +kernel) (by decide +kernel)
set_option maxRecDepth 20000 in
theorem gX5_at_X5_sideOf : GoodIn wsX5_at (wsV RX5 66 RX5 yX5_sideOf wsX5_sideOf) := goodIn_app (goodIn_of _ (by decide +kernel)) ggX5_at_X5_sideOf
set_option maxRecDepth 20000 in
theorem ggX5_at_X2_countAt : GoodIn wsX5_at wsX2_countAt := goodIn_r _ [17] (by decide +kernel) (by decide +kernel)
set_option maxRecDepth 20000 in
theorem gX5_at_X2_countAt : GoodIn wsX5_at (va_wsS RX5 94 yX2_countAt wsX2_countAt) := goodIn_app (goodIn_of _ (by decide +kernel)) ggX5_at_X2_countAt
theorem dX5_at_0 : decode cX5_at 0 = .ok (.iload_n 1, 1) := by decide +kernel
theorem dX5_at_1 : decode cX5_at 1 = .ok (.iconst 0, 1) := by decide +kernel
theorem dX5_at_2 : decode cX5_at 2 = .ok (.iconst 1, 1) := by decide +kernel
theorem dX5_at_3 : decode cX5_at 3 = .ok (.invokestatic 36, 3) := by decide +kernel
theorem dX5_at_6 : decode cX5_at 6 = .ok (.iload_n 2, 1) := by decide +kernel
theorem dX5_at_7 : decode cX5_at 7 = .ok (.iconst 0, 1) := by decide +kernel
theorem dX5_at_8 : decode cX5_at 8 = .ok (.bipush 15, 2) := by decide +kernel
theorem dX5_at_10 : decode cX5_at 10 = .ok (.invokestatic 36, 3) := by decide +kernel
theorem dX5_at_13 : decode cX5_at 13 = .ok (.aload_n 0, 1) := by decide +kernel
theorem dX5_at_14 : decode cX5_at 14 = .ok (.iload_n 1, 1) := by decide +kernel
theorem dX5_at_15 : decode cX5_at 15 = .ok (.invokevirtual 66, 3) := by decide +kernel
theorem dX5_at_18 : decode cX5_at 18 = .ok (.getfield 70, 3) := by decide +kernel
theorem dX5_at_21 : decode cX5_at 21 = .ok (.iload_n 2, 1) := by decide +kernel
theorem dX5_at_22 : decode cX5_at 22 = .ok (.invokestatic 94, 3) := by decide +kernel
theorem dX5_at_25 : decode cX5_at 25 = .ok (.ireturn, 1) := by decide +kernel
set_option maxRecDepth 20000 in
theorem ggX5_progress_X5_refuseOutside : GoodIn wsX5_progress wsX5_refuseOutside := goodIn_ca (goodIn_r _ [5, 6, 7] (by decide +kernel) (by decide +kernel)) (goodIn_sub (fun _ h => List.mem_cons_of_mem _ (List.mem_append_right _ h)) (by decide +kernel))
set_option maxRecDepth 20000 in
theorem gX5_progress_X5_refuseOutside : GoodIn wsX5_progress (va_wsS RX5 36 yX5_refuseOutside wsX5_refuseOutside) := goodIn_app (goodIn_of _ (by decide +kernel)) ggX5_progress_X5_refuseOutside
set_option maxRecDepth 20000 in
theorem ggX5_progress_X5_sideOf : GoodIn wsX5_progress wsX5_sideOf := goodIn_r _ [11, 12, 13, 23, 24, 25, 26, 27, 28, 29, 30, 31] (by decide +kernel) (by decide +kernel)
set_option maxRecDepth 20000 in
theorem gX5_progress_X5_sideOf : GoodIn wsX5_progress (wsV RX5 66 RX5 yX5_sideOf wsX5_sideOf) := goodIn_app (goodIn_of _ (by decide +kernel)) ggX5_progress_X5_sideOf
set_option maxRecDepth 20000 in
theorem ggX5_progress_X2_sumOfPlaces : GoodIn wsX5_progress wsX2_sumOfPlaces := goodIn_r _ [17, 18, 19, 16, 20] (by decide +kernel) (by decide +kernel)
set_option maxRecDepth 20000 in
theorem gX5_progress_X2_sumOfPlaces : GoodIn wsX5_progress (va_wsS RX5 98 yX2_sumOfPlaces wsX2_sumOfPlaces) := goodIn_app (goodIn_of _ (by decide +kernel)) ggX5_progress_X2_sumOfPlaces
theorem dX5_progress_0 : decode cX5_progress 0 = .ok (.iload_n 1, 1) := by decide +kernel
theorem dX5_progress_1 : decode cX5_progress 1 = .ok (.iconst 0, 1) := by decide +kernel
theorem dX5_progress_2 : decode cX5_progress 2 = .ok (.iconst 1, 1) := by decide +kernel
theorem dX5_progress_3 : decode cX5_progress 3 = .ok (.invokestatic 36, 3) := by decide +kernel
theorem dX5_progress_6 : decode cX5_progress 6 = .ok (.aload_n 0, 1) := by decide +kernel
theorem dX5_progress_7 : decode cX5_progress 7 = .ok (.iload_n 1, 1) := by decide +kernel
theorem dX5_progress_8 : decode cX5_progress 8 = .ok (.invokevirtual 66, 3) := by decide +kernel
theorem dX5_progress_11 : decode cX5_progress 11 = .ok (.getfield 70, 3) := by decide +kernel
theorem dX5_progress_14 : decode cX5_progress 14 = .ok (.invokestatic 98, 3) := by decide +kernel
theorem dX5_progress_17 : decode cX5_progress 17 = .ok (.ireturn, 1) := by decide +kernel
set_option maxRecDepth 20000 in
theorem ggX5_captured_X5_refuseOutside : GoodIn wsX5_captured wsX5_refuseOutside := goodIn_ca (goodIn_r _ [5, 6, 7] (by decide +kernel) (by decide +kernel)) (goodIn_sub (fun _ h => List.mem_cons_of_mem _ (List.mem_append_right _ h)) (by decide +kernel))
set_option maxRecDepth 20000 in
theorem gX5_captured_X5_refuseOutside : GoodIn wsX5_captured (va_wsS RX5 36 yX5_refuseOutside wsX5_refuseOutside) := goodIn_app (goodIn_of _ (by decide +kernel)) ggX5_captured_X5_refuseOutside
set_option maxRecDepth 20000 in
theorem ggX5_captured_X5_sideOf : GoodIn wsX5_captured wsX5_sideOf := goodIn_r _ [11, 12, 13, 16, 17, 18, 19, 20, 21, 22, 23, 24] (by decide +kernel) (by decide +kernel)
set_option maxRecDepth 20000 in
theorem gX5_captured_X5_sideOf : GoodIn wsX5_captured (wsV RX5 66 RX5 yX5_sideOf wsX5_sideOf) := goodIn_app (goodIn_of _ (by decide +kernel)) ggX5_captured_X5_sideOf
theorem dX5_captured_0 : decode cX5_captured 0 = .ok (.iload_n 1, 1) := by decide +kernel
theorem dX5_captured_1 : decode cX5_captured 1 = .ok (.iconst 0, 1) := by decide +kernel
theorem dX5_captured_2 : decode cX5_captured 2 = .ok (.iconst 1, 1) := by decide +kernel
theorem dX5_captured_3 : decode cX5_captured 3 = .ok (.invokestatic 36, 3) := by decide +kernel
theorem dX5_captured_6 : decode cX5_captured 6 = .ok (.aload_n 0, 1) := by decide +kernel
theorem dX5_captured_7 : decode cX5_captured 7 = .ok (.iload_n 1, 1) := by decide +kernel
theorem dX5_captured_8 : decode cX5_captured 8 = .ok (.invokevirtual 66, 3) := by decide +kernel
theorem dX5_captured_11 : decode cX5_captured 11 = .ok (.getfield 84, 3) := by decide +kernel
theorem dX5_captured_14 : decode cX5_captured 14 = .ok (.ireturn, 1) := by decide +kernel
theorem dX5_throwsTold_0 : decode cX5_throwsTold 0 = .ok (.aload_n 0, 1) := by decide +kernel
theorem dX5_throwsTold_1 : decode cX5_throwsTold 1 = .ok (.getfield 52, 3) := by decide +kernel
theorem dX5_throwsTold_4 : decode cX5_throwsTold 4 = .ok (.ireturn, 1) := by decide +kernel
set_option maxRecDepth 20000 in
theorem ggX5_moves_X5_countMoves : GoodIn wsX5_moves wsX5_countMoves := goodIn_r _ [6, 7, 8, 9, 10, 11, 5, 12, 13, 14, 15, 16, 17, 18, 19, 20, 21, 22, 23, 24, 25, 26, 27, 28, 29, 30, 31, 32, 33, 34, 35, 36] (by decide +kernel) (by decide +kernel)
set_option maxRecDepth 20000 in
theorem gX5_moves_X5_countMoves : GoodIn wsX5_moves (wsV RX5 55 RX5 yX5_countMoves wsX5_countMoves) := goodIn_app (goodIn_of _ (by decide +kernel)) ggX5_moves_X5_countMoves
theorem dX5_moves_0 : decode cX5_moves 0 = .ok (.aload_n 0, 1) := by decide +kernel
theorem dX5_moves_1 : decode cX5_moves 1 = .ok (.aload_n 0, 1) := by decide +kernel
theorem dX5_moves_2 : decode cX5_moves 2 = .ok (.getfield 46, 3) := by decide +kernel
theorem dX5_moves_5 : decode cX5_moves 5 = .ok (.invokevirtual 55, 3) := by decide +kernel
theorem dX5_moves_8 : decode cX5_moves 8 = .ok (.ireturn, 1) := by decide +kernel
set_option maxRecDepth 20000 in
theorem ggX5_moveAt_X5_canMoveFrom : GoodIn wsX5_moveAt wsX5_canMoveFrom := goodIn_r _ [5, 6, 7, 8, 9, 10, 11, 4, 12, 13, 14, 15, 16, 17, 18, 19, 20, 21, 22, 23, 24, 25, 26, 27, 28, 29, 30, 31, 32, 33, 34, 35, 36] (by decide +kernel) (by decide +kernel)
set_option maxRecDepth 20000 in
theorem gX5_moveAt_X5_canMoveFrom : GoodIn wsX5_moveAt (wsV RX5 62 RX5 yX5_canMoveFrom wsX5_canMoveFrom) := goodIn_app (goodIn_of _ (by decide +kernel)) ggX5_moveAt_X5_canMoveFrom
theorem dX5_moveAt_0 : decode cX5_moveAt 0 = .ok (.iconst 0, 1) := by decide +kernel
theorem dX5_moveAt_1 : decode cX5_moveAt 1 = .ok (.istore_n 2, 1) := by decide +kernel
theorem dX5_moveAt_2 : decode cX5_moveAt 2 = .ok (.iconst 0, 1) := by decide +kernel
theorem dX5_moveAt_3 : decode cX5_moveAt 3 = .ok (.istore_n 3, 1) := by decide +kernel
theorem dX5_moveAt_4 : decode cX5_moveAt 4 = .ok (.iload_n 3, 1) := by decide +kernel
theorem dX5_moveAt_5 : decode cX5_moveAt 5 = .ok (.bipush 14, 2) := by decide +kernel
theorem dX5_moveAt_7 : decode cX5_moveAt 7 = .ok (.if_icmp .gt 27, 3) := by decide +kernel
theorem dX5_moveAt_10 : decode cX5_moveAt 10 = .ok (.aload_n 0, 1) := by decide +kernel
theorem dX5_moveAt_11 : decode cX5_moveAt 11 = .ok (.iload_n 3, 1) := by decide +kernel
theorem dX5_moveAt_12 : decode cX5_moveAt 12 = .ok (.invokevirtual 62, 3) := by decide +kernel
theorem dX5_moveAt_15 : decode cX5_moveAt 15 = .ok (.ifCond .eq 13, 3) := by decide +kernel
theorem dX5_moveAt_18 : decode cX5_moveAt 18 = .ok (.iload_n 2, 1) := by decide +kernel
theorem dX5_moveAt_19 : decode cX5_moveAt 19 = .ok (.iload_n 1, 1) := by decide +kernel
theorem dX5_moveAt_20 : decode cX5_moveAt 20 = .ok (.if_icmp .ne 5, 3) := by decide +kernel
theorem dX5_moveAt_23 : decode cX5_moveAt 23 = .ok (.iload_n 3, 1) := by decide +kernel
theorem dX5_moveAt_24 : decode cX5_moveAt 24 = .ok (.ireturn, 1) := by decide +kernel
theorem dX5_moveAt_25 : decode cX5_moveAt 25 = .ok (.iinc 2 1, 3) := by decide +kernel
theorem dX5_moveAt_28 : decode cX5_moveAt 28 = .ok (.iinc 3 1, 3) := by decide +kernel
theorem dX5_moveAt_31 : decode cX5_moveAt 31 = .ok (.goto (-27), 3) := by decide +kernel
theorem dX5_moveAt_34 : decode cX5_moveAt 34 = .ok (.iconst (-1), 1) := by decide +kernel
theorem dX5_moveAt_35 : decode cX5_moveAt 35 = .ok (.ireturn, 1) := by decide +kernel
set_option maxRecDepth 20000 in
theorem ggX5_captures_X5_refuseOutside : GoodIn wsX5_captures wsX5_refuseOutside := goodIn_ca (goodIn_r _ [7, 8, 9] (by decide +kernel) (by decide +kernel)) (goodIn_sub (fun _ h => List.mem_cons_of_mem _ (List.mem_append_right _ h)) (by decide +kernel))
set_option maxRecDepth 20000 in
theorem gX5_captures_X5_refuseOutside : GoodIn wsX5_captures (va_wsS RX5 36 yX5_refuseOutside wsX5_refuseOutside) := goodIn_app (goodIn_of _ (by decide +kernel)) ggX5_captures_X5_refuseOutside
set_option maxRecDepth 20000 in
theorem ggX5_captures_X5_canMoveFrom : GoodIn wsX5_captures wsX5_canMoveFrom := goodIn_r _ [13, 1, 2, 3, 14, 15, 16, 6, 17, 18, 19, 20, 21, 22, 23, 24, 25, 26, 27, 28, 29, 30, 37, 38, 39, 40, 41, 42, 43, 44, 45, 46, 47] (by decide +kernel) (by decide +kernel)
set_option maxRecDepth 20000 in
theorem gX5_captures_X5_canMoveFrom : GoodIn wsX5_captures (wsV RX5 62 RX5 yX5_canMoveFrom wsX5_canMoveFrom) := goodIn_app (goodIn_of _ (by decide +kernel)) ggX5_captures_X5_canMoveFrom
set_option maxRecDepth 20000 in
theorem ggX5_captures_X5_sideOf : GoodIn wsX5_captures wsX5_sideOf := goodIn_r _ [17, 18, 19, 37, 38, 39, 40, 41, 42, 43, 44, 45] (by decide +kernel) (by decide +kernel)
set_option maxRecDepth 20000 in
theorem gX5_captures_X5_sideOf : GoodIn wsX5_captures (wsV RX5 66 RX5 yX5_sideOf wsX5_sideOf) := goodIn_app (goodIn_of _ (by decide +kernel)) ggX5_captures_X5_sideOf
set_option maxRecDepth 20000 in
theorem ggX5_captures_X2_canBeTaken : GoodIn wsX5_captures wsX2_canBeTaken := goodIn_r _ [33, 34, 35, 29, 36, 24, 25, 22, 26] (by decide +kernel) (by decide +kernel)
set_option maxRecDepth 20000 in
theorem gX5_captures_X2_canBeTaken : GoodIn wsX5_captures (va_wsS RX5 80 yX2_canBeTaken wsX2_canBeTaken) := goodIn_app (goodIn_of _ (by decide +kernel)) ggX5_captures_X2_canBeTaken
theorem dX5_captures_0 : decode cX5_captures 0 = .ok (.iload_n 1, 1) := by decide +kernel
theorem dX5_captures_1 : decode cX5_captures 1 = .ok (.iconst 0, 1) := by decide +kernel
theorem dX5_captures_2 : decode cX5_captures 2 = .ok (.bipush 14, 2) := by decide +kernel
theorem dX5_captures_4 : decode cX5_captures 4 = .ok (.invokestatic 36, 3) := by decide +kernel
theorem dX5_captures_7 : decode cX5_captures 7 = .ok (.aload_n 0, 1) := by decide +kernel
theorem dX5_captures_8 : decode cX5_captures 8 = .ok (.iload_n 1, 1) := by decide +kernel
theorem dX5_captures_9 : decode cX5_captures 9 = .ok (.invokevirtual 62, 3) := by decide +kernel
theorem dX5_captures_12 : decode cX5_captures 12 = .ok (.ifCond .eq 32, 3) := by decide +kernel
theorem dX5_captures_15 : decode cX5_captures 15 = .ok (.aload_n 0, 1) := by decide +kernel
theorem dX5_captures_16 : decode cX5_captures 16 = .ok (.iconst 1, 1) := by decide +kernel
theorem dX5_captures_17 : decode cX5_captures 17 = .ok (.aload_n 0, 1) := by decide +kernel
theorem dX5_captures_18 : decode cX5_captures 18 = .ok (.getfield 59, 3) := by decide +kernel
theorem dX5_captures_21 : decode cX5_captures 21 = .ok (.isub, 1) := by decide +kernel
theorem dX5_captures_22 : decode cX5_captures 22 = .ok (.invokevirtual 66, 3) := by decide +kernel
theorem dX5_captures_25 : decode cX5_captures 25 = .ok (.getfield 70, 3) := by decide +kernel
theorem dX5_captures_28 : decode cX5_captures 28 = .ok (.iload_n 1, 1) := by decide +kernel
theorem dX5_captures_29 : decode cX5_captures 29 = .ok (.aload_n 0, 1) := by decide +kernel
theorem dX5_captures_30 : decode cX5_captures 30 = .ok (.getfield 46, 3) := by decide +kernel
theorem dX5_captures_33 : decode cX5_captures 33 = .ok (.iadd, 1) := by decide +kernel
theorem dX5_captures_34 : decode cX5_captures 34 = .ok (.invokestatic 80, 3) := by decide +kernel
theorem dX5_captures_37 : decode cX5_captures 37 = .ok (.ifCond .eq 7, 3) := by decide +kernel
theorem dX5_captures_40 : decode cX5_captures 40 = .ok (.iconst 1, 1) := by decide +kernel
theorem dX5_captures_41 : decode cX5_captures 41 = .ok (.goto 4, 3) := by decide +kernel
theorem dX5_captures_44 : decode cX5_captures 44 = .ok (.iconst 0, 1) := by decide +kernel
theorem dX5_captures_45 : decode cX5_captures 45 = .ok (.ireturn, 1) := by decide +kernel
set_option maxRecDepth 20000 in
theorem ggX5_worth_X5_refuseOutside : GoodIn wsX5_worth wsX5_refuseOutside := goodIn_ca (goodIn_r _ [6, 7, 8] (by decide +kernel) (by decide +kernel)) (goodIn_sub (fun _ h => List.mem_cons_of_mem _ (List.mem_append_right _ h)) (by decide +kernel))
set_option maxRecDepth 20000 in
theorem gX5_worth_X5_refuseOutside : GoodIn wsX5_worth (va_wsS RX5 36 yX5_refuseOutside wsX5_refuseOutside) := goodIn_app (goodIn_of _ (by decide +kernel)) ggX5_worth_X5_refuseOutside
set_option maxRecDepth 20000 in
theorem ggX5_worth_X5_worthForTurn : GoodIn wsX5_worth wsX5_worthForTurn := goodIn_r _ [12, 13, 1, 2, 14, 15, 16, 17, 18, 19, 20, 21, 22, 23, 24, 25, 26, 27, 28, 29, 30, 31, 32, 33, 34, 35, 36, 37, 38, 39, 40, 41, 42, 43, 44, 45, 46, 47, 48, 49, 50, 51, 52, 53, 54, 55, 56, 57, 58, 59, 60, 61, 62, 63, 64, 5, 65, 66, 67, 68, 69, 70, 71, 72, 73, 74, 75, 76, 77, 78, 79, 80, 81, 82, 83, 84, 85, 86, 87, 88, 89, 90, 91, 92, 93, 94, 95, 96, 97, 98, 99, 100, 101, 102, 103, 104, 105, 106, 107, 108, 109, 110, 111, 112, 113, 114, 115, 116, 117, 118, 119, 120, 121, 122, 123, 124, 125, 126, 127, 128, 129, 130, 131, 132, 133, 134, 135, 136, 137, 138] (by decide +kernel) (by decide +kernel)
set_option maxRecDepth 20000 in
theorem gX5_worth_X5_worthForTurn : GoodIn wsX5_worth (wsV RX5 102 RX5 yX5_worthForTurn wsX5_worthForTurn) := goodIn_app (goodIn_of _ (by decide +kernel)) ggX5_worth_X5_worthForTurn
theorem dX5_worth_0 : decode cX5_worth 0 = .ok (.iload_n 1, 1) := by decide +kernel
theorem dX5_worth_1 : decode cX5_worth 1 = .ok (.iconst 0, 1) := by decide +kernel
theorem dX5_worth_2 : decode cX5_worth 2 = .ok (.iconst 3, 1) := by decide +kernel
theorem dX5_worth_3 : decode cX5_worth 3 = .ok (.invokestatic 36, 3) := by decide +kernel
theorem dX5_worth_6 : decode cX5_worth 6 = .ok (.aload_n 0, 1) := by decide +kernel
theorem dX5_worth_7 : decode cX5_worth 7 = .ok (.iload_n 1, 1) := by decide +kernel
theorem dX5_worth_8 : decode cX5_worth 8 = .ok (.invokevirtual 102, 3) := by decide +kernel
theorem dX5_worth_11 : decode cX5_worth 11 = .ok (.istore_n 2, 1) := by decide +kernel
theorem dX5_worth_12 : decode cX5_worth 12 = .ok (.aload_n 0, 1) := by decide +kernel
theorem dX5_worth_13 : decode cX5_worth 13 = .ok (.getfield 59, 3) := by decide +kernel
theorem dX5_worth_16 : decode cX5_worth 16 = .ok (.ifCond .ne 7, 3) := by decide +kernel
theorem dX5_worth_19 : decode cX5_worth 19 = .ok (.iload_n 2, 1) := by decide +kernel
theorem dX5_worth_20 : decode cX5_worth 20 = .ok (.goto 7, 3) := by decide +kernel
theorem dX5_worth_23 : decode cX5_worth 23 = .ok (.ldc 105, 2) := by decide +kernel
theorem dX5_worth_25 : decode cX5_worth 25 = .ok (.iload_n 2, 1) := by decide +kernel
theorem dX5_worth_26 : decode cX5_worth 26 = .ok (.isub, 1) := by decide +kernel
theorem dX5_worth_27 : decode cX5_worth 27 = .ok (.ireturn, 1) := by decide +kernel
set_option maxRecDepth 20000 in
theorem ggX5_chance_X5_refuseOutside : GoodIn wsX5_chance wsX5_refuseOutside := goodIn_ca (goodIn_r _ [5, 6, 7] (by decide +kernel) (by decide +kernel)) (goodIn_sub (fun _ h => List.mem_cons_of_mem _ (List.mem_append_right _ h)) (by decide +kernel))
set_option maxRecDepth 20000 in
theorem gX5_chance_X5_refuseOutside : GoodIn wsX5_chance (va_wsS RX5 36 yX5_refuseOutside wsX5_refuseOutside) := goodIn_app (goodIn_of _ (by decide +kernel)) ggX5_chance_X5_refuseOutside
set_option maxRecDepth 20000 in
theorem ggX5_chance_X5_worthForTurn : GoodIn wsX5_chance wsX5_worthForTurn := goodIn_r _ [11, 12, 13, 14, 15, 16, 17, 18, 19, 20, 21, 22, 23, 24, 25, 26, 27, 28, 29, 30, 31, 32, 33, 34, 35, 36, 37, 38, 39, 40, 41, 42, 43, 44, 45, 46, 47, 48, 49, 50, 51, 52, 53, 54, 55, 56, 57, 58, 59, 60, 61, 62, 63, 64, 65, 4, 66, 67, 68, 69, 70, 71, 72, 73, 74, 75, 76, 77, 78, 79, 80, 81, 82, 83, 84, 85, 86, 87, 88, 89, 90, 91, 92, 93, 94, 95, 96, 97, 98, 99, 100, 101, 102, 103, 104, 105, 106, 107, 108, 109, 110, 111, 112, 113, 114, 115, 116, 117, 118, 119, 120, 121, 122, 123, 124, 125, 126, 127, 128, 129, 130, 131, 132, 133, 134, 135, 136, 137, 138, 139] (by decide +kernel) (by decide +kernel)
set_option maxRecDepth 20000 in
theorem gX5_chance_X5_worthForTurn : GoodIn wsX5_chance (wsV RX5 102 RX5 yX5_worthForTurn wsX5_worthForTurn) := goodIn_app (goodIn_of _ (by decide +kernel)) ggX5_chance_X5_worthForTurn
theorem dX5_chance_0 : decode cX5_chance 0 = .ok (.iload_n 1, 1) := by decide +kernel
theorem dX5_chance_1 : decode cX5_chance 1 = .ok (.iconst 0, 1) := by decide +kernel
theorem dX5_chance_2 : decode cX5_chance 2 = .ok (.iconst 3, 1) := by decide +kernel
theorem dX5_chance_3 : decode cX5_chance 3 = .ok (.invokestatic 36, 3) := by decide +kernel
theorem dX5_chance_6 : decode cX5_chance 6 = .ok (.aload_n 0, 1) := by decide +kernel
theorem dX5_chance_7 : decode cX5_chance 7 = .ok (.iload_n 1, 1) := by decide +kernel
theorem dX5_chance_8 : decode cX5_chance 8 = .ok (.invokevirtual 102, 3) := by decide +kernel
theorem dX5_chance_11 : decode cX5_chance 11 = .ok (.i2d, 1) := by decide +kernel
theorem dX5_chance_12 : decode cX5_chance 12 = .ok (.ldc2_w 106, 3) := by decide +kernel
theorem dX5_chance_15 : decode cX5_chance 15 = .ok (.ddiv, 1) := by decide +kernel
theorem dX5_chance_16 : decode cX5_chance 16 = .ok (.dreturn, 1) := by decide +kernel
set_option maxRecDepth 20000 in
theorem ggX5_ranked_X5_refuseOutside : GoodIn wsX5_ranked wsX5_refuseOutside := goodIn_ca (goodIn_r _ [8, 1, 2] (by decide +kernel) (by decide +kernel)) (goodIn_sub (fun _ h => List.mem_cons_of_mem _ (List.mem_append_right _ h)) (by decide +kernel))
set_option maxRecDepth 20000 in
theorem gX5_ranked_X5_refuseOutside : GoodIn wsX5_ranked (va_wsS RX5 36 yX5_refuseOutside wsX5_refuseOutside) := goodIn_app (goodIn_of _ (by decide +kernel)) ggX5_ranked_X5_refuseOutside
set_option maxRecDepth 20000 in
theorem ggX5_ranked_X5_countMoves : GoodIn wsX5_ranked wsX5_countMoves := goodIn_r _ [12, 13, 14, 15, 16, 17, 7, 18, 19, 20, 21, 22, 23, 24, 25, 26, 27, 28, 29, 30, 31, 134, 135, 136, 137, 138, 139, 140, 141, 142, 143, 144] (by decide +kernel) (by decide +kernel)
set_option maxRecDepth 20000 in
theorem gX5_ranked_X5_countMoves : GoodIn wsX5_ranked (wsV RX5 55 RX5 yX5_countMoves wsX5_countMoves) := goodIn_app (goodIn_of _ (by decide +kernel)) ggX5_ranked_X5_countMoves
set_option maxRecDepth 20000 in
theorem ggX5_ranked_X5_noteWorthsBehind : GoodIn wsX5_ranked wsX5_noteWorthsBehind := goodIn_r _ [35, 36, 13, 14, 4, 3, 37, 38, 39, 40, 41, 42, 43, 44, 45, 46, 47, 48, 49, 50, 51, 52, 53, 54, 55, 56, 57, 58, 59, 60, 61, 62, 63, 64, 65, 66, 67, 68, 69, 70, 71, 72, 29, 30, 31, 73, 74, 75, 76, 77, 78, 15, 16, 17, 7, 18, 19, 20, 79, 80, 81, 82, 83, 84, 23, 85, 25, 26, 27, 21, 22, 24, 28, 86, 87, 88, 89, 90, 91, 92, 93, 94, 95, 96, 97, 98, 99, 100, 101, 102, 103, 104, 105, 106, 107, 108, 109, 110, 111, 112, 113, 114, 115, 116, 117, 118, 119, 120, 121, 122, 123, 124, 125, 126, 127, 128, 129, 134, 135, 136, 137, 138, 139, 140, 141, 142, 143, 144, 145, 146] (by decide +kernel) (by decide +kernel)
set_option maxRecDepth 20000 in
theorem gX5_ranked_X5_noteWorthsBehind : GoodIn wsX5_ranked (wsV RX5 111 RX5 yX5_noteWorthsBehind wsX5_noteWorthsBehind) := goodIn_app (goodIn_of _ (by decide +kernel)) ggX5_ranked_X5_noteWorthsBehind
set_option maxRecDepth 20000 in
theorem ggX5_ranked_X5_countBetter : GoodIn wsX5_ranked wsX5_countBetter := goodIn_r _ [133, 4, 134, 135, 136, 137, 138, 139, 140, 141, 142] (by decide +kernel) (by decide +kernel)
set_option maxRecDepth 20000 in
theorem gX5_ranked_X5_countBetter : GoodIn wsX5_ranked (wsV RX5 114 RX5 yX5_countBetter wsX5_countBetter) := goodIn_app (goodIn_of _ (by decide +kernel)) ggX5_ranked_X5_countBetter
theorem dX5_ranked_0 : decode cX5_ranked 0 = .ok (.iload_n 1, 1) := by decide +kernel
theorem dX5_ranked_1 : decode cX5_ranked 1 = .ok (.iconst 0, 1) := by decide +kernel
theorem dX5_ranked_2 : decode cX5_ranked 2 = .ok (.iconst 3, 1) := by decide +kernel
theorem dX5_ranked_3 : decode cX5_ranked 3 = .ok (.invokestatic 36, 3) := by decide +kernel
theorem dX5_ranked_6 : decode cX5_ranked 6 = .ok (.iload_n 2, 1) := by decide +kernel
theorem dX5_ranked_7 : decode cX5_ranked 7 = .ok (.ifCond .ge 11, 3) := by decide +kernel
theorem dX5_ranked_10 : decode cX5_ranked 10 = .ok (.new 108, 3) := by decide +kernel
theorem dX5_ranked_13 : decode cX5_ranked 13 = .ok (.dup, 1) := by decide +kernel
theorem dX5_ranked_14 : decode cX5_ranked 14 = .ok (.invokespecial 110, 3) := by decide +kernel
theorem dX5_ranked_17 : decode cX5_ranked 17 = .ok (.athrow, 1) := by decide +kernel
theorem dX5_ranked_18 : decode cX5_ranked 18 = .ok (.iload_n 2, 1) := by decide +kernel
theorem dX5_ranked_19 : decode cX5_ranked 19 = .ok (.aload_n 0, 1) := by decide +kernel
theorem dX5_ranked_20 : decode cX5_ranked 20 = .ok (.aload_n 0, 1) := by decide +kernel
theorem dX5_ranked_21 : decode cX5_ranked 21 = .ok (.getfield 46, 3) := by decide +kernel
theorem dX5_ranked_24 : decode cX5_ranked 24 = .ok (.invokevirtual 55, 3) := by decide +kernel
theorem dX5_ranked_27 : decode cX5_ranked 27 = .ok (.if_icmp .lt 5, 3) := by decide +kernel
theorem dX5_ranked_30 : decode cX5_ranked 30 = .ok (.iconst (-1), 1) := by decide +kernel
theorem dX5_ranked_31 : decode cX5_ranked 31 = .ok (.ireturn, 1) := by decide +kernel
theorem dX5_ranked_32 : decode cX5_ranked 32 = .ok (.aload_n 0, 1) := by decide +kernel
theorem dX5_ranked_33 : decode cX5_ranked 33 = .ok (.iload_n 1, 1) := by decide +kernel
theorem dX5_ranked_34 : decode cX5_ranked 34 = .ok (.invokevirtual 111, 3) := by decide +kernel
theorem dX5_ranked_37 : decode cX5_ranked 37 = .ok (.iconst 0, 1) := by decide +kernel
theorem dX5_ranked_38 : decode cX5_ranked 38 = .ok (.istore_n 3, 1) := by decide +kernel
theorem dX5_ranked_39 : decode cX5_ranked 39 = .ok (.iload_n 3, 1) := by decide +kernel
theorem dX5_ranked_40 : decode cX5_ranked 40 = .ok (.aload_n 0, 1) := by decide +kernel
theorem dX5_ranked_41 : decode cX5_ranked 41 = .ok (.getfield 28, 3) := by decide +kernel
theorem dX5_ranked_44 : decode cX5_ranked 44 = .ok (.arraylength, 1) := by decide +kernel
theorem dX5_ranked_45 : decode cX5_ranked 45 = .ok (.if_icmp .ge 36, 3) := by decide +kernel
theorem dX5_ranked_48 : decode cX5_ranked 48 = .ok (.aload_n 0, 1) := by decide +kernel
theorem dX5_ranked_49 : decode cX5_ranked 49 = .ok (.getfield 28, 3) := by decide +kernel
theorem dX5_ranked_52 : decode cX5_ranked 52 = .ok (.iload_n 3, 1) := by decide +kernel
theorem dX5_ranked_53 : decode cX5_ranked 53 = .ok (.iaload, 1) := by decide +kernel
theorem dX5_ranked_54 : decode cX5_ranked 54 = .ok (.istore 4, 2) := by decide +kernel
theorem dX5_ranked_56 : decode cX5_ranked 56 = .ok (.iload 4, 2) := by decide +kernel
theorem dX5_ranked_58 : decode cX5_ranked 58 = .ok (.iconst (-1), 1) := by decide +kernel
theorem dX5_ranked_59 : decode cX5_ranked 59 = .ok (.if_icmp .eq 16, 3) := by decide +kernel
theorem dX5_ranked_62 : decode cX5_ranked 62 = .ok (.aload_n 0, 1) := by decide +kernel
theorem dX5_ranked_63 : decode cX5_ranked 63 = .ok (.iload_n 3, 1) := by decide +kernel
theorem dX5_ranked_64 : decode cX5_ranked 64 = .ok (.iload 4, 2) := by decide +kernel
theorem dX5_ranked_66 : decode cX5_ranked 66 = .ok (.invokevirtual 114, 3) := by decide +kernel
theorem dX5_ranked_69 : decode cX5_ranked 69 = .ok (.iload_n 2, 1) := by decide +kernel
theorem dX5_ranked_70 : decode cX5_ranked 70 = .ok (.if_icmp .ne 5, 3) := by decide +kernel
theorem dX5_ranked_73 : decode cX5_ranked 73 = .ok (.iload_n 3, 1) := by decide +kernel
theorem dX5_ranked_74 : decode cX5_ranked 74 = .ok (.ireturn, 1) := by decide +kernel
theorem dX5_ranked_75 : decode cX5_ranked 75 = .ok (.iinc 3 1, 3) := by decide +kernel
theorem dX5_ranked_78 : decode cX5_ranked 78 = .ok (.goto (-39), 3) := by decide +kernel
theorem dX5_ranked_81 : decode cX5_ranked 81 = .ok (.iconst (-1), 1) := by decide +kernel
theorem dX5_ranked_82 : decode cX5_ranked 82 = .ok (.ireturn, 1) := by decide +kernel
set_option maxRecDepth 20000 in
theorem ggX5_ending_X5_refuseEnding : GoodIn wsX5_ending wsX5_refuseEnding := goodIn_ca (goodIn_r _ [5, 6, 7, 8, 9, 4, 10, 11, 12, 13, 14] (by decide +kernel) (by decide +kernel)) (goodIn_sub (fun _ h => List.mem_cons_of_mem _ (List.mem_append_right _ h)) (by decide +kernel))
set_option maxRecDepth 20000 in
theorem gX5_ending_X5_refuseEnding : GoodIn wsX5_ending (va_wsS RX5 118 yX5_refuseEnding wsX5_refuseEnding) := goodIn_app (goodIn_of _ (by decide +kernel)) ggX5_ending_X5_refuseEnding
set_option maxRecDepth 20000 in
theorem ggX5_ending_X5_refuseOutside : GoodIn wsX5_ending wsX5_refuseOutside := goodIn_ca (goodIn_r _ [10, 6, 7] (by decide +kernel) (by decide +kernel)) (goodIn_sub (fun _ h => List.mem_cons_of_mem _ (List.mem_append_right _ h)) (by decide +kernel))
set_option maxRecDepth 20000 in
theorem gX5_ending_X5_refuseOutside : GoodIn wsX5_ending (va_wsS RX5 36 yX5_refuseOutside wsX5_refuseOutside) := goodIn_app (goodIn_of _ (by decide +kernel)) ggX5_ending_X5_refuseOutside
set_option maxRecDepth 20000 in
theorem ggX5_ending_X1_fillUpTo : GoodIn wsX5_ending wsX1_fillUpTo := goodIn_r _ [19, 20, 21, 22, 23, 24, 25, 26, 27, 18, 28, 29, 30, 31, 32, 33, 34, 35, 36, 37, 38, 39, 40, 41, 42, 43, 44, 45, 46, 47, 48, 49, 50, 51, 13, 52, 53, 12, 14, 54, 55, 56, 67, 68] (by decide +kernel) (by decide +kernel)
set_option maxRecDepth 20000 in
theorem gX5_ending_X1_fillUpTo : GoodIn wsX5_ending (wsV RX5 122 RX1 yX1_fillUpTo wsX1_fillUpTo) := goodIn_app (goodIn_of _ (by decide +kernel)) ggX5_ending_X1_fillUpTo
set_option maxRecDepth 20000 in
theorem ggX5_ending_X1_held : GoodIn wsX5_ending wsX1_held := goodIn_r _ [38, 39, 29, 67, 68] (by decide +kernel) (by decide +kernel)
set_option maxRecDepth 20000 in
theorem gX5_ending_X1_held : GoodIn wsX5_ending (wsV RX5 125 RX1 yX1_held wsX1_held) := goodIn_app (goodIn_of _ (by decide +kernel)) ggX5_ending_X1_held
theorem dX5_ending_0 : decode cX5_ending 0 = .ok (.iload_n 1, 1) := by decide +kernel
theorem dX5_ending_1 : decode cX5_ending 1 = .ok (.iload_n 2, 1) := by decide +kernel
theorem dX5_ending_2 : decode cX5_ending 2 = .ok (.invokestatic 118, 3) := by decide +kernel
theorem dX5_ending_5 : decode cX5_ending 5 = .ok (.iload_n 3, 1) := by decide +kernel
theorem dX5_ending_6 : decode cX5_ending 6 = .ok (.iconst 0, 1) := by decide +kernel
theorem dX5_ending_7 : decode cX5_ending 7 = .ok (.bipush 60, 2) := by decide +kernel
theorem dX5_ending_9 : decode cX5_ending 9 = .ok (.invokestatic 36, 3) := by decide +kernel
theorem dX5_ending_12 : decode cX5_ending 12 = .ok (.aload_n 0, 1) := by decide +kernel
theorem dX5_ending_13 : decode cX5_ending 13 = .ok (.getfield 22, 3) := by decide +kernel
theorem dX5_ending_16 : decode cX5_ending 16 = .ok (.iload_n 3, 1) := by decide +kernel
theorem dX5_ending_17 : decode cX5_ending 17 = .ok (.invokevirtual 122, 3) := by decide +kernel
theorem dX5_ending_20 : decode cX5_ending 20 = .ok (.aload_n 0, 1) := by decide +kernel
theorem dX5_ending_21 : decode cX5_ending 21 = .ok (.getfield 22, 3) := by decide +kernel
theorem dX5_ending_24 : decode cX5_ending 24 = .ok (.iload_n 1, 1) := by decide +kernel
theorem dX5_ending_25 : decode cX5_ending 25 = .ok (.iload_n 2, 1) := by decide +kernel
theorem dX5_ending_26 : decode cX5_ending 26 = .ok (.iload_n 3, 1) := by decide +kernel
theorem dX5_ending_27 : decode cX5_ending 27 = .ok (.invokevirtual 125, 3) := by decide +kernel
theorem dX5_ending_30 : decode cX5_ending 30 = .ok (.ireturn, 1) := by decide +kernel
theorem dX5_refuseOutside_0 : decode cX5_refuseOutside 0 = .ok (.iload_n 0, 1) := by decide +kernel
theorem dX5_refuseOutside_1 : decode cX5_refuseOutside 1 = .ok (.iload_n 1, 1) := by decide +kernel
theorem dX5_refuseOutside_2 : decode cX5_refuseOutside 2 = .ok (.if_icmp .lt 8, 3) := by decide +kernel
theorem dX5_refuseOutside_5 : decode cX5_refuseOutside 5 = .ok (.iload_n 0, 1) := by decide +kernel
theorem dX5_refuseOutside_6 : decode cX5_refuseOutside 6 = .ok (.iload_n 2, 1) := by decide +kernel
theorem dX5_refuseOutside_7 : decode cX5_refuseOutside 7 = .ok (.if_icmp .le 11, 3) := by decide +kernel
theorem dX5_refuseOutside_10 : decode cX5_refuseOutside 10 = .ok (.new 108, 3) := by decide +kernel
theorem dX5_refuseOutside_13 : decode cX5_refuseOutside 13 = .ok (.dup, 1) := by decide +kernel
theorem dX5_refuseOutside_14 : decode cX5_refuseOutside 14 = .ok (.invokespecial 110, 3) := by decide +kernel
theorem dX5_refuseOutside_17 : decode cX5_refuseOutside 17 = .ok (.athrow, 1) := by decide +kernel
theorem dX5_refuseOutside_18 : decode cX5_refuseOutside 18 = .ok (.return_, 1) := by decide +kernel
set_option maxRecDepth 20000 in
theorem ggX5_refuseEnding_X5_refuseOutside : GoodIn wsX5_refuseEnding wsX5_refuseOutside := goodIn_ca (goodIn_r _ [6, 1, 2] (by decide +kernel) (by decide +kernel)) (goodIn_sub (fun _ h => List.mem_cons_of_mem _ (List.mem_append_right _ h)) (by decide +kernel))
set_option maxRecDepth 20000 in
theorem gX5_refuseEnding_X5_refuseOutside : GoodIn wsX5_refuseEnding (va_wsS RX5 36 yX5_refuseOutside wsX5_refuseOutside) := goodIn_app (goodIn_of _ (by decide +kernel)) ggX5_refuseEnding_X5_refuseOutside
set_option maxRecDepth 20000 in
theorem ggX5_refuseEnding_X4_isShared : GoodIn wsX5_refuseEnding wsX4_isShared := goodIn_r _ [10] (by decide +kernel) (by decide +kernel)
set_option maxRecDepth 20000 in
theorem gX5_refuseEnding_X4_isShared : GoodIn wsX5_refuseEnding (va_wsS RX5 132 yX4_isShared wsX4_isShared) := goodIn_app (goodIn_of _ (by decide +kernel)) ggX5_refuseEnding_X4_isShared
theorem dX5_refuseEnding_0 : decode cX5_refuseEnding 0 = .ok (.iload_n 0, 1) := by decide +kernel
theorem dX5_refuseEnding_1 : decode cX5_refuseEnding 1 = .ok (.iconst 0, 1) := by decide +kernel
theorem dX5_refuseEnding_2 : decode cX5_refuseEnding 2 = .ok (.bipush 14, 2) := by decide +kernel
theorem dX5_refuseEnding_4 : decode cX5_refuseEnding 4 = .ok (.invokestatic 36, 3) := by decide +kernel
theorem dX5_refuseEnding_7 : decode cX5_refuseEnding 7 = .ok (.iload_n 1, 1) := by decide +kernel
theorem dX5_refuseEnding_8 : decode cX5_refuseEnding 8 = .ok (.iconst 0, 1) := by decide +kernel
theorem dX5_refuseEnding_9 : decode cX5_refuseEnding 9 = .ok (.bipush 14, 2) := by decide +kernel
theorem dX5_refuseEnding_11 : decode cX5_refuseEnding 11 = .ok (.invokestatic 36, 3) := by decide +kernel
theorem dX5_refuseEnding_14 : decode cX5_refuseEnding 14 = .ok (.iload_n 0, 1) := by decide +kernel
theorem dX5_refuseEnding_15 : decode cX5_refuseEnding 15 = .ok (.iload_n 1, 1) := by decide +kernel
theorem dX5_refuseEnding_16 : decode cX5_refuseEnding 16 = .ok (.if_icmp .ne 18, 3) := by decide +kernel
theorem dX5_refuseEnding_19 : decode cX5_refuseEnding 19 = .ok (.iload_n 0, 1) := by decide +kernel
theorem dX5_refuseEnding_20 : decode cX5_refuseEnding 20 = .ok (.invokestatic 132, 3) := by decide +kernel
theorem dX5_refuseEnding_23 : decode cX5_refuseEnding 23 = .ok (.ifCond .eq 11, 3) := by decide +kernel
theorem dX5_refuseEnding_26 : decode cX5_refuseEnding 26 = .ok (.new 108, 3) := by decide +kernel
theorem dX5_refuseEnding_29 : decode cX5_refuseEnding 29 = .ok (.dup, 1) := by decide +kernel
theorem dX5_refuseEnding_30 : decode cX5_refuseEnding 30 = .ok (.invokespecial 110, 3) := by decide +kernel
theorem dX5_refuseEnding_33 : decode cX5_refuseEnding 33 = .ok (.athrow, 1) := by decide +kernel
theorem dX5_refuseEnding_34 : decode cX5_refuseEnding 34 = .ok (.return_, 1) := by decide +kernel
set_option maxRecDepth 20000 in
theorem ggX5_setUp_X2_allAtStart : GoodIn wsX5_setUp wsX2_allAtStart := goodIn_r _ [13] (by decide +kernel) (by decide +kernel)
set_option maxRecDepth 20000 in
theorem gX5_setUp_X2_allAtStart : GoodIn wsX5_setUp (va_wsS RX5 138 yX2_allAtStart wsX2_allAtStart) := goodIn_app (goodIn_of _ (by decide +kernel)) ggX5_setUp_X2_allAtStart
theorem dX5_setUp_0 : decode cX5_setUp 0 = .ok (.aload_n 0, 1) := by decide +kernel
theorem dX5_setUp_1 : decode cX5_setUp 1 = .ok (.iload_n 1, 1) := by decide +kernel
theorem dX5_setUp_2 : decode cX5_setUp 2 = .ok (.putfield 135, 3) := by decide +kernel
theorem dX5_setUp_5 : decode cX5_setUp 5 = .ok (.aload_n 0, 1) := by decide +kernel
theorem dX5_setUp_6 : decode cX5_setUp 6 = .ok (.getfield 10, 3) := by decide +kernel
theorem dX5_setUp_9 : decode cX5_setUp 9 = .ok (.iload_n 1, 1) := by decide +kernel
theorem dX5_setUp_10 : decode cX5_setUp 10 = .ok (.invokestatic 138, 3) := by decide +kernel
theorem dX5_setUp_13 : decode cX5_setUp 13 = .ok (.putfield 70, 3) := by decide +kernel
theorem dX5_setUp_16 : decode cX5_setUp 16 = .ok (.aload_n 0, 1) := by decide +kernel
theorem dX5_setUp_17 : decode cX5_setUp 17 = .ok (.getfield 16, 3) := by decide +kernel
theorem dX5_setUp_20 : decode cX5_setUp 20 = .ok (.iload_n 1, 1) := by decide +kernel
theorem dX5_setUp_21 : decode cX5_setUp 21 = .ok (.invokestatic 138, 3) := by decide +kernel
theorem dX5_setUp_24 : decode cX5_setUp 24 = .ok (.putfield 70, 3) := by decide +kernel
theorem dX5_setUp_27 : decode cX5_setUp 27 = .ok (.aload_n 0, 1) := by decide +kernel
theorem dX5_setUp_28 : decode cX5_setUp 28 = .ok (.getfield 10, 3) := by decide +kernel
theorem dX5_setUp_31 : decode cX5_setUp 31 = .ok (.iconst 0, 1) := by decide +kernel
theorem dX5_setUp_32 : decode cX5_setUp 32 = .ok (.putfield 84, 3) := by decide +kernel
theorem dX5_setUp_35 : decode cX5_setUp 35 = .ok (.aload_n 0, 1) := by decide +kernel
theorem dX5_setUp_36 : decode cX5_setUp 36 = .ok (.getfield 16, 3) := by decide +kernel
theorem dX5_setUp_39 : decode cX5_setUp 39 = .ok (.iconst 0, 1) := by decide +kernel
theorem dX5_setUp_40 : decode cX5_setUp 40 = .ok (.putfield 84, 3) := by decide +kernel
theorem dX5_setUp_43 : decode cX5_setUp 43 = .ok (.aload_n 0, 1) := by decide +kernel
theorem dX5_setUp_44 : decode cX5_setUp 44 = .ok (.iconst 0, 1) := by decide +kernel
theorem dX5_setUp_45 : decode cX5_setUp 45 = .ok (.putfield 59, 3) := by decide +kernel
theorem dX5_setUp_48 : decode cX5_setUp 48 = .ok (.aload_n 0, 1) := by decide +kernel
theorem dX5_setUp_49 : decode cX5_setUp 49 = .ok (.iconst (-1), 1) := by decide +kernel
theorem dX5_setUp_50 : decode cX5_setUp 50 = .ok (.putfield 46, 3) := by decide +kernel
theorem dX5_setUp_53 : decode cX5_setUp 53 = .ok (.aload_n 0, 1) := by decide +kernel
theorem dX5_setUp_54 : decode cX5_setUp 54 = .ok (.iconst (-1), 1) := by decide +kernel
theorem dX5_setUp_55 : decode cX5_setUp 55 = .ok (.putfield 42, 3) := by decide +kernel
theorem dX5_setUp_58 : decode cX5_setUp 58 = .ok (.aload_n 0, 1) := by decide +kernel
theorem dX5_setUp_59 : decode cX5_setUp 59 = .ok (.iconst 0, 1) := by decide +kernel
theorem dX5_setUp_60 : decode cX5_setUp 60 = .ok (.putfield 52, 3) := by decide +kernel
theorem dX5_setUp_63 : decode cX5_setUp 63 = .ok (.return_, 1) := by decide +kernel
theorem dX5_sideOf_0 : decode cX5_sideOf 0 = .ok (.iload_n 1, 1) := by decide +kernel
theorem dX5_sideOf_1 : decode cX5_sideOf 1 = .ok (.ifCond .ne 10, 3) := by decide +kernel
theorem dX5_sideOf_4 : decode cX5_sideOf 4 = .ok (.aload_n 0, 1) := by decide +kernel
theorem dX5_sideOf_5 : decode cX5_sideOf 5 = .ok (.getfield 10, 3) := by decide +kernel
theorem dX5_sideOf_8 : decode cX5_sideOf 8 = .ok (.goto 7, 3) := by decide +kernel
theorem dX5_sideOf_11 : decode cX5_sideOf 11 = .ok (.aload_n 0, 1) := by decide +kernel
theorem dX5_sideOf_12 : decode cX5_sideOf 12 = .ok (.getfield 16, 3) := by decide +kernel
theorem dX5_sideOf_15 : decode cX5_sideOf 15 = .ok (.areturn, 1) := by decide +kernel
set_option maxRecDepth 20000 in
theorem ggX5_canMoveFrom_X5_sideOf : GoodIn wsX5_canMoveFrom wsX5_sideOf := goodIn_r _ [8, 9, 10, 22, 23, 24, 25, 26, 27, 28, 29, 30] (by decide +kernel) (by decide +kernel)
set_option maxRecDepth 20000 in
theorem gX5_canMoveFrom_X5_sideOf : GoodIn wsX5_canMoveFrom (wsV RX5 66 RX5 yX5_sideOf wsX5_sideOf) := goodIn_app (goodIn_of _ (by decide +kernel)) ggX5_canMoveFrom_X5_sideOf
set_option maxRecDepth 20000 in
theorem ggX5_canMoveFrom_X2_canMove : GoodIn wsX5_canMoveFrom wsX2_canMove := goodIn_r _ [14, 15, 16, 13, 17, 18, 19, 20, 21] (by decide +kernel) (by decide +kernel)
set_option maxRecDepth 20000 in
theorem gX5_canMoveFrom_X2_canMove : GoodIn wsX5_canMoveFrom (va_wsS RX5 142 yX2_canMove wsX2_canMove) := goodIn_app (goodIn_of _ (by decide +kernel)) ggX5_canMoveFrom_X2_canMove
theorem dX5_canMoveFrom_0 : decode cX5_canMoveFrom 0 = .ok (.aload_n 0, 1) := by decide +kernel
theorem dX5_canMoveFrom_1 : decode cX5_canMoveFrom 1 = .ok (.aload_n 0, 1) := by decide +kernel
theorem dX5_canMoveFrom_2 : decode cX5_canMoveFrom 2 = .ok (.getfield 59, 3) := by decide +kernel
theorem dX5_canMoveFrom_5 : decode cX5_canMoveFrom 5 = .ok (.invokevirtual 66, 3) := by decide +kernel
theorem dX5_canMoveFrom_8 : decode cX5_canMoveFrom 8 = .ok (.getfield 70, 3) := by decide +kernel
theorem dX5_canMoveFrom_11 : decode cX5_canMoveFrom 11 = .ok (.aload_n 0, 1) := by decide +kernel
theorem dX5_canMoveFrom_12 : decode cX5_canMoveFrom 12 = .ok (.iconst 1, 1) := by decide +kernel
theorem dX5_canMoveFrom_13 : decode cX5_canMoveFrom 13 = .ok (.aload_n 0, 1) := by decide +kernel
theorem dX5_canMoveFrom_14 : decode cX5_canMoveFrom 14 = .ok (.getfield 59, 3) := by decide +kernel
theorem dX5_canMoveFrom_17 : decode cX5_canMoveFrom 17 = .ok (.isub, 1) := by decide +kernel
theorem dX5_canMoveFrom_18 : decode cX5_canMoveFrom 18 = .ok (.invokevirtual 66, 3) := by decide +kernel
theorem dX5_canMoveFrom_21 : decode cX5_canMoveFrom 21 = .ok (.getfield 70, 3) := by decide +kernel
theorem dX5_canMoveFrom_24 : decode cX5_canMoveFrom 24 = .ok (.iload_n 1, 1) := by decide +kernel
theorem dX5_canMoveFrom_25 : decode cX5_canMoveFrom 25 = .ok (.aload_n 0, 1) := by decide +kernel
theorem dX5_canMoveFrom_26 : decode cX5_canMoveFrom 26 = .ok (.getfield 46, 3) := by decide +kernel
theorem dX5_canMoveFrom_29 : decode cX5_canMoveFrom 29 = .ok (.invokestatic 142, 3) := by decide +kernel
theorem dX5_canMoveFrom_32 : decode cX5_canMoveFrom 32 = .ok (.ireturn, 1) := by decide +kernel
set_option maxRecDepth 20000 in
theorem ggX5_countMoves_X5_sideOf : GoodIn wsX5_countMoves wsX5_sideOf := goodIn_r _ [7, 8, 9, 21, 22, 23, 24, 25, 26, 27, 28, 29] (by decide +kernel) (by decide +kernel)
set_option maxRecDepth 20000 in
theorem gX5_countMoves_X5_sideOf : GoodIn wsX5_countMoves (wsV RX5 66 RX5 yX5_sideOf wsX5_sideOf) := goodIn_app (goodIn_of _ (by decide +kernel)) ggX5_countMoves_X5_sideOf
set_option maxRecDepth 20000 in
theorem ggX5_countMoves_X2_canMove : GoodIn wsX5_countMoves wsX2_canMove := goodIn_r _ [13, 14, 15, 12, 16, 17, 18, 19, 20] (by decide +kernel) (by decide +kernel)
set_option maxRecDepth 20000 in
theorem gX5_countMoves_X2_canMove : GoodIn wsX5_countMoves (va_wsS RX5 142 yX2_canMove wsX2_canMove) := goodIn_app (goodIn_of _ (by decide +kernel)) ggX5_countMoves_X2_canMove
theorem dX5_countMoves_0 : decode cX5_countMoves 0 = .ok (.aload_n 0, 1) := by decide +kernel
theorem dX5_countMoves_1 : decode cX5_countMoves 1 = .ok (.aload_n 0, 1) := by decide +kernel
theorem dX5_countMoves_2 : decode cX5_countMoves 2 = .ok (.getfield 59, 3) := by decide +kernel
theorem dX5_countMoves_5 : decode cX5_countMoves 5 = .ok (.invokevirtual 66, 3) := by decide +kernel
theorem dX5_countMoves_8 : decode cX5_countMoves 8 = .ok (.getfield 70, 3) := by decide +kernel
theorem dX5_countMoves_11 : decode cX5_countMoves 11 = .ok (.lstore_n 2, 1) := by decide +kernel
theorem dX5_countMoves_12 : decode cX5_countMoves 12 = .ok (.aload_n 0, 1) := by decide +kernel
theorem dX5_countMoves_13 : decode cX5_countMoves 13 = .ok (.iconst 1, 1) := by decide +kernel
theorem dX5_countMoves_14 : decode cX5_countMoves 14 = .ok (.aload_n 0, 1) := by decide +kernel
theorem dX5_countMoves_15 : decode cX5_countMoves 15 = .ok (.getfield 59, 3) := by decide +kernel
theorem dX5_countMoves_18 : decode cX5_countMoves 18 = .ok (.isub, 1) := by decide +kernel
theorem dX5_countMoves_19 : decode cX5_countMoves 19 = .ok (.invokevirtual 66, 3) := by decide +kernel
theorem dX5_countMoves_22 : decode cX5_countMoves 22 = .ok (.getfield 70, 3) := by decide +kernel
theorem dX5_countMoves_25 : decode cX5_countMoves 25 = .ok (.lstore 4, 2) := by decide +kernel
theorem dX5_countMoves_27 : decode cX5_countMoves 27 = .ok (.iconst 0, 1) := by decide +kernel
theorem dX5_countMoves_28 : decode cX5_countMoves 28 = .ok (.istore 6, 2) := by decide +kernel
theorem dX5_countMoves_30 : decode cX5_countMoves 30 = .ok (.iconst 0, 1) := by decide +kernel
theorem dX5_countMoves_31 : decode cX5_countMoves 31 = .ok (.istore 7, 2) := by decide +kernel
theorem dX5_countMoves_33 : decode cX5_countMoves 33 = .ok (.iload 7, 2) := by decide +kernel
theorem dX5_countMoves_35 : decode cX5_countMoves 35 = .ok (.bipush 14, 2) := by decide +kernel
theorem dX5_countMoves_37 : decode cX5_countMoves 37 = .ok (.if_icmp .gt 24, 3) := by decide +kernel
theorem dX5_countMoves_40 : decode cX5_countMoves 40 = .ok (.lload_n 2, 1) := by decide +kernel
theorem dX5_countMoves_41 : decode cX5_countMoves 41 = .ok (.lload 4, 2) := by decide +kernel
theorem dX5_countMoves_43 : decode cX5_countMoves 43 = .ok (.iload 7, 2) := by decide +kernel
theorem dX5_countMoves_45 : decode cX5_countMoves 45 = .ok (.iload_n 1, 1) := by decide +kernel
theorem dX5_countMoves_46 : decode cX5_countMoves 46 = .ok (.invokestatic 142, 3) := by decide +kernel
theorem dX5_countMoves_49 : decode cX5_countMoves 49 = .ok (.ifCond .eq 6, 3) := by decide +kernel
theorem dX5_countMoves_52 : decode cX5_countMoves 52 = .ok (.iinc 6 1, 3) := by decide +kernel
theorem dX5_countMoves_55 : decode cX5_countMoves 55 = .ok (.iinc 7 1, 3) := by decide +kernel
theorem dX5_countMoves_58 : decode cX5_countMoves 58 = .ok (.goto (-25), 3) := by decide +kernel
theorem dX5_countMoves_61 : decode cX5_countMoves 61 = .ok (.iload 6, 2) := by decide +kernel
theorem dX5_countMoves_63 : decode cX5_countMoves 63 = .ok (.ireturn, 1) := by decide +kernel
set_option maxRecDepth 20000 in
theorem ggX5_leadOfTurn_X5_sideOf : GoodIn wsX5_leadOfTurn wsX5_sideOf := goodIn_r _ [7, 8, 9, 17, 18, 19, 20, 21, 22, 23, 24, 25] (by decide +kernel) (by decide +kernel)
set_option maxRecDepth 20000 in
theorem gX5_leadOfTurn_X5_sideOf : GoodIn wsX5_leadOfTurn (wsV RX5 66 RX5 yX5_sideOf wsX5_sideOf) := goodIn_app (goodIn_of _ (by decide +kernel)) ggX5_leadOfTurn_X5_sideOf
set_option maxRecDepth 20000 in
theorem ggX5_leadOfTurn_X2_sumOfPlaces : GoodIn wsX5_leadOfTurn wsX2_sumOfPlaces := goodIn_r _ [13, 14, 15, 12, 16] (by decide +kernel) (by decide +kernel)
set_option maxRecDepth 20000 in
theorem gX5_leadOfTurn_X2_sumOfPlaces : GoodIn wsX5_leadOfTurn (va_wsS RX5 98 yX2_sumOfPlaces wsX2_sumOfPlaces) := goodIn_app (goodIn_of _ (by decide +kernel)) ggX5_leadOfTurn_X2_sumOfPlaces
theorem dX5_leadOfTurn_0 : decode cX5_leadOfTurn 0 = .ok (.aload_n 0, 1) := by decide +kernel
theorem dX5_leadOfTurn_1 : decode cX5_leadOfTurn 1 = .ok (.aload_n 0, 1) := by decide +kernel
theorem dX5_leadOfTurn_2 : decode cX5_leadOfTurn 2 = .ok (.getfield 59, 3) := by decide +kernel
theorem dX5_leadOfTurn_5 : decode cX5_leadOfTurn 5 = .ok (.invokevirtual 66, 3) := by decide +kernel
theorem dX5_leadOfTurn_8 : decode cX5_leadOfTurn 8 = .ok (.getfield 70, 3) := by decide +kernel
theorem dX5_leadOfTurn_11 : decode cX5_leadOfTurn 11 = .ok (.invokestatic 98, 3) := by decide +kernel
theorem dX5_leadOfTurn_14 : decode cX5_leadOfTurn 14 = .ok (.aload_n 0, 1) := by decide +kernel
theorem dX5_leadOfTurn_15 : decode cX5_leadOfTurn 15 = .ok (.iconst 1, 1) := by decide +kernel
theorem dX5_leadOfTurn_16 : decode cX5_leadOfTurn 16 = .ok (.aload_n 0, 1) := by decide +kernel
theorem dX5_leadOfTurn_17 : decode cX5_leadOfTurn 17 = .ok (.getfield 59, 3) := by decide +kernel
theorem dX5_leadOfTurn_20 : decode cX5_leadOfTurn 20 = .ok (.isub, 1) := by decide +kernel
theorem dX5_leadOfTurn_21 : decode cX5_leadOfTurn 21 = .ok (.invokevirtual 66, 3) := by decide +kernel
theorem dX5_leadOfTurn_24 : decode cX5_leadOfTurn 24 = .ok (.getfield 70, 3) := by decide +kernel
theorem dX5_leadOfTurn_27 : decode cX5_leadOfTurn 27 = .ok (.invokestatic 98, 3) := by decide +kernel
theorem dX5_leadOfTurn_30 : decode cX5_leadOfTurn 30 = .ok (.isub, 1) := by decide +kernel
theorem dX5_leadOfTurn_31 : decode cX5_leadOfTurn 31 = .ok (.ireturn, 1) := by decide +kernel
set_option maxRecDepth 20000 in
theorem ggX5_worthForTurn_X1_fillUpTo : GoodIn wsX5_worthForTurn wsX1_fillUpTo := goodIn_r _ [11, 12, 13, 14, 15, 16, 17, 18, 19, 10, 20, 21, 22, 23, 24, 25, 26, 27, 28, 29, 30, 31, 32, 33, 34, 35, 36, 37, 38, 39, 40, 41, 42, 43, 44, 45, 46, 47, 48, 49, 50, 51, 128, 129] (by decide +kernel) (by decide +kernel)
set_option maxRecDepth 20000 in
theorem gX5_worthForTurn_X1_fillUpTo : GoodIn wsX5_worthForTurn (wsV RX5 122 RX1 yX1_fillUpTo wsX1_fillUpTo) := goodIn_app (goodIn_of _ (by decide +kernel)) ggX5_worthForTurn_X1_fillUpTo
set_option maxRecDepth 20000 in
theorem ggX5_worthForTurn_X5_sideOf : GoodIn wsX5_worthForTurn wsX5_sideOf := goodIn_r _ [56, 57, 58, 117, 118, 119, 120, 121, 122, 123, 124, 125] (by decide +kernel) (by decide +kernel)
set_option maxRecDepth 20000 in
theorem gX5_worthForTurn_X5_sideOf : GoodIn wsX5_worthForTurn (wsV RX5 66 RX5 yX5_sideOf wsX5_sideOf) := goodIn_app (goodIn_of _ (by decide +kernel)) ggX5_worthForTurn_X5_sideOf
set_option maxRecDepth 20000 in
theorem ggX5_worthForTurn_X5_leadOfTurn : GoodIn wsX5_worthForTurn wsX5_leadOfTurn := goodIn_r _ [62, 2, 5, 52, 53, 54, 55, 56, 57, 58, 63, 64, 65, 66, 67, 68, 69, 117, 118, 119, 120, 121, 122, 123, 124, 125, 126, 127] (by decide +kernel) (by decide +kernel)
set_option maxRecDepth 20000 in
theorem gX5_worthForTurn_X5_leadOfTurn : GoodIn wsX5_worthForTurn (wsV RX5 146 RX5 yX5_leadOfTurn wsX5_leadOfTurn) := goodIn_app (goodIn_of _ (by decide +kernel)) ggX5_worthForTurn_X5_leadOfTurn
set_option maxRecDepth 20000 in
theorem ggX5_worthForTurn_X5_worthToThrow : GoodIn wsX5_worthForTurn wsX5_worthToThrow := goodIn_r _ [73, 74, 75, 76, 77, 55, 78, 79, 4, 80, 81, 82, 83, 14, 84, 85, 86, 13, 15, 87, 68, 65, 69, 88, 89, 90, 67, 91, 28, 29, 10, 30, 31, 21, 92, 33, 34, 35, 36, 93, 94, 95, 96, 3, 97, 98, 99, 100, 101, 102, 103, 104, 105, 106, 107, 47, 44, 48, 108, 50, 51, 70, 71, 72, 109, 110, 111, 112, 113, 43, 45, 114, 115, 116, 117, 118, 119, 120, 121, 122, 123, 124, 125, 128, 129] (by decide +kernel) (by decide +kernel)
set_option maxRecDepth 20000 in
theorem gX5_worthForTurn_X5_worthToThrow : GoodIn wsX5_worthForTurn (wsV RX5 150 RX5 yX5_worthToThrow wsX5_worthToThrow) := goodIn_app (goodIn_of _ (by decide +kernel)) ggX5_worthForTurn_X5_worthToThrow
set_option maxRecDepth 20000 in
theorem ggX5_worthForTurn_X5_worthBehindThrow : GoodIn wsX5_worthForTurn wsX5_worthBehindThrow := goodIn_r _ [109, 82, 83, 14, 84, 3, 110, 111, 65, 112, 67, 68, 69, 113, 43, 44, 45, 114, 115, 116, 55, 70, 71, 72, 96, 97, 98, 99, 100, 101, 102, 103, 104, 105, 106, 107, 47, 48, 108, 50, 51, 73, 74, 75, 76, 77, 78, 79, 4, 80, 81, 85, 86, 13, 15, 87, 88, 89, 90, 91, 28, 29, 10, 30, 31, 21, 92, 33, 34, 35, 36, 93, 94, 95, 117, 118, 119, 120, 121, 122, 123, 124, 125, 128, 129] (by decide +kernel) (by decide +kernel)
set_option maxRecDepth 20000 in
theorem gX5_worthForTurn_X5_worthBehindThrow : GoodIn wsX5_worthForTurn (wsV RX5 154 RX5 yX5_worthBehindThrow wsX5_worthBehindThrow) := goodIn_app (goodIn_of _ (by decide +kernel)) ggX5_worthForTurn_X5_worthBehindThrow
theorem dX5_worthForTurn_0 : decode cX5_worthForTurn 0 = .ok (.aload_n 0, 1) := by decide +kernel
theorem dX5_worthForTurn_1 : decode cX5_worthForTurn 1 = .ok (.getfield 42, 3) := by decide +kernel
theorem dX5_worthForTurn_4 : decode cX5_worthForTurn 4 = .ok (.iconst (-1), 1) := by decide +kernel
theorem dX5_worthForTurn_5 : decode cX5_worthForTurn 5 = .ok (.if_icmp .eq 21, 3) := by decide +kernel
theorem dX5_worthForTurn_8 : decode cX5_worthForTurn 8 = .ok (.aload_n 0, 1) := by decide +kernel
theorem dX5_worthForTurn_9 : decode cX5_worthForTurn 9 = .ok (.getfield 42, 3) := by decide +kernel
theorem dX5_worthForTurn_12 : decode cX5_worthForTurn 12 = .ok (.aload_n 0, 1) := by decide +kernel
theorem dX5_worthForTurn_13 : decode cX5_worthForTurn 13 = .ok (.getfield 59, 3) := by decide +kernel
theorem dX5_worthForTurn_16 : decode cX5_worthForTurn 16 = .ok (.if_icmp .ne 8, 3) := by decide +kernel
theorem dX5_worthForTurn_19 : decode cX5_worthForTurn 19 = .ok (.ldc 105, 2) := by decide +kernel
theorem dX5_worthForTurn_21 : decode cX5_worthForTurn 21 = .ok (.goto 4, 3) := by decide +kernel
theorem dX5_worthForTurn_24 : decode cX5_worthForTurn 24 = .ok (.iconst 0, 1) := by decide +kernel
theorem dX5_worthForTurn_25 : decode cX5_worthForTurn 25 = .ok (.ireturn, 1) := by decide +kernel
theorem dX5_worthForTurn_26 : decode cX5_worthForTurn 26 = .ok (.aload_n 0, 1) := by decide +kernel
theorem dX5_worthForTurn_27 : decode cX5_worthForTurn 27 = .ok (.getfield 22, 3) := by decide +kernel
theorem dX5_worthForTurn_30 : decode cX5_worthForTurn 30 = .ok (.bipush 40, 2) := by decide +kernel
theorem dX5_worthForTurn_32 : decode cX5_worthForTurn 32 = .ok (.invokevirtual 122, 3) := by decide +kernel
theorem dX5_worthForTurn_35 : decode cX5_worthForTurn 35 = .ok (.aload_n 0, 1) := by decide +kernel
theorem dX5_worthForTurn_36 : decode cX5_worthForTurn 36 = .ok (.aload_n 0, 1) := by decide +kernel
theorem dX5_worthForTurn_37 : decode cX5_worthForTurn 37 = .ok (.getfield 59, 3) := by decide +kernel
theorem dX5_worthForTurn_40 : decode cX5_worthForTurn 40 = .ok (.invokevirtual 66, 3) := by decide +kernel
theorem dX5_worthForTurn_43 : decode cX5_worthForTurn 43 = .ok (.getfield 70, 3) := by decide +kernel
theorem dX5_worthForTurn_46 : decode cX5_worthForTurn 46 = .ok (.lstore_n 2, 1) := by decide +kernel
theorem dX5_worthForTurn_47 : decode cX5_worthForTurn 47 = .ok (.aload_n 0, 1) := by decide +kernel
theorem dX5_worthForTurn_48 : decode cX5_worthForTurn 48 = .ok (.iconst 1, 1) := by decide +kernel
theorem dX5_worthForTurn_49 : decode cX5_worthForTurn 49 = .ok (.aload_n 0, 1) := by decide +kernel
theorem dX5_worthForTurn_50 : decode cX5_worthForTurn 50 = .ok (.getfield 59, 3) := by decide +kernel
theorem dX5_worthForTurn_53 : decode cX5_worthForTurn 53 = .ok (.isub, 1) := by decide +kernel
theorem dX5_worthForTurn_54 : decode cX5_worthForTurn 54 = .ok (.invokevirtual 66, 3) := by decide +kernel
theorem dX5_worthForTurn_57 : decode cX5_worthForTurn 57 = .ok (.getfield 70, 3) := by decide +kernel
theorem dX5_worthForTurn_60 : decode cX5_worthForTurn 60 = .ok (.lstore 4, 2) := by decide +kernel
theorem dX5_worthForTurn_62 : decode cX5_worthForTurn 62 = .ok (.aload_n 0, 1) := by decide +kernel
theorem dX5_worthForTurn_63 : decode cX5_worthForTurn 63 = .ok (.getfield 46, 3) := by decide +kernel
theorem dX5_worthForTurn_66 : decode cX5_worthForTurn 66 = .ok (.iconst (-1), 1) := by decide +kernel
theorem dX5_worthForTurn_67 : decode cX5_worthForTurn 67 = .ok (.if_icmp .ne 16, 3) := by decide +kernel
theorem dX5_worthForTurn_70 : decode cX5_worthForTurn 70 = .ok (.aload_n 0, 1) := by decide +kernel
theorem dX5_worthForTurn_71 : decode cX5_worthForTurn 71 = .ok (.lload_n 2, 1) := by decide +kernel
theorem dX5_worthForTurn_72 : decode cX5_worthForTurn 72 = .ok (.lload 4, 2) := by decide +kernel
theorem dX5_worthForTurn_74 : decode cX5_worthForTurn 74 = .ok (.aload_n 0, 1) := by decide +kernel
theorem dX5_worthForTurn_75 : decode cX5_worthForTurn 75 = .ok (.invokevirtual 146, 3) := by decide +kernel
theorem dX5_worthForTurn_78 : decode cX5_worthForTurn 78 = .ok (.iload_n 1, 1) := by decide +kernel
theorem dX5_worthForTurn_79 : decode cX5_worthForTurn 79 = .ok (.invokevirtual 150, 3) := by decide +kernel
theorem dX5_worthForTurn_82 : decode cX5_worthForTurn 82 = .ok (.ireturn, 1) := by decide +kernel
theorem dX5_worthForTurn_83 : decode cX5_worthForTurn 83 = .ok (.aload_n 0, 1) := by decide +kernel
theorem dX5_worthForTurn_84 : decode cX5_worthForTurn 84 = .ok (.lload_n 2, 1) := by decide +kernel
theorem dX5_worthForTurn_85 : decode cX5_worthForTurn 85 = .ok (.lload 4, 2) := by decide +kernel
theorem dX5_worthForTurn_87 : decode cX5_worthForTurn 87 = .ok (.aload_n 0, 1) := by decide +kernel
theorem dX5_worthForTurn_88 : decode cX5_worthForTurn 88 = .ok (.invokevirtual 146, 3) := by decide +kernel
theorem dX5_worthForTurn_91 : decode cX5_worthForTurn 91 = .ok (.aload_n 0, 1) := by decide +kernel
theorem dX5_worthForTurn_92 : decode cX5_worthForTurn 92 = .ok (.getfield 46, 3) := by decide +kernel
theorem dX5_worthForTurn_95 : decode cX5_worthForTurn 95 = .ok (.iload_n 1, 1) := by decide +kernel
theorem dX5_worthForTurn_96 : decode cX5_worthForTurn 96 = .ok (.invokevirtual 154, 3) := by decide +kernel
theorem dX5_worthForTurn_99 : decode cX5_worthForTurn 99 = .ok (.ireturn, 1) := by decide +kernel
set_option maxRecDepth 20000 in
theorem ggX5_noteWorthsBehind_X1_fillUpTo : GoodIn wsX5_noteWorthsBehind wsX1_fillUpTo := goodIn_r _ [10, 11, 12, 13, 14, 15, 16, 17, 18, 9, 19, 20, 21, 22, 23, 24, 25, 26, 27, 28, 29, 30, 31, 32, 33, 34, 35, 36, 37, 38, 39, 40, 41, 42, 43, 44, 45, 46, 47, 48, 49, 50, 128, 129] (by decide +kernel) (by decide +kernel)
set_option maxRecDepth 20000 in
theorem gX5_noteWorthsBehind_X1_fillUpTo : GoodIn wsX5_noteWorthsBehind (wsV RX5 122 RX1 yX1_fillUpTo wsX1_fillUpTo) := goodIn_app (goodIn_of _ (by decide +kernel)) ggX5_noteWorthsBehind_X1_fillUpTo
set_option maxRecDepth 20000 in
theorem ggX5_noteWorthsBehind_X5_sideOf : GoodIn wsX5_noteWorthsBehind wsX5_sideOf := goodIn_r _ [55, 56, 57, 117, 118, 119, 120, 121, 122, 123, 124, 125] (by decide +kernel) (by decide +kernel)
set_option maxRecDepth 20000 in
theorem gX5_noteWorthsBehind_X5_sideOf : GoodIn wsX5_noteWorthsBehind (wsV RX5 66 RX5 yX5_sideOf wsX5_sideOf) := goodIn_app (goodIn_of _ (by decide +kernel)) ggX5_noteWorthsBehind_X5_sideOf
set_option maxRecDepth 20000 in
theorem ggX5_noteWorthsBehind_X5_leadOfTurn : GoodIn wsX5_noteWorthsBehind wsX5_leadOfTurn := goodIn_r _ [61, 2, 3, 51, 52, 53, 54, 55, 56, 57, 62, 63, 64, 65, 66, 67, 68, 117, 118, 119, 120, 121, 122, 123, 124, 125, 126, 127] (by decide +kernel) (by decide +kernel)
set_option maxRecDepth 20000 in
theorem gX5_noteWorthsBehind_X5_leadOfTurn : GoodIn wsX5_noteWorthsBehind (wsV RX5 146 RX5 yX5_leadOfTurn wsX5_leadOfTurn) := goodIn_app (goodIn_of _ (by decide +kernel)) ggX5_noteWorthsBehind_X5_leadOfTurn
set_option maxRecDepth 20000 in
theorem ggX5_noteWorthsBehind_X2_canMove : GoodIn wsX5_noteWorthsBehind wsX2_canMove := goodIn_r _ [71, 66, 67, 64, 68, 72, 42, 43, 44] (by decide +kernel) (by decide +kernel)
set_option maxRecDepth 20000 in
theorem gX5_noteWorthsBehind_X2_canMove : GoodIn wsX5_noteWorthsBehind (va_wsS RX5 142 yX2_canMove wsX2_canMove) := goodIn_app (goodIn_of _ (by decide +kernel)) ggX5_noteWorthsBehind_X2_canMove
set_option maxRecDepth 20000 in
theorem ggX5_noteWorthsBehind_X5_worthBehindMove : GoodIn wsX5_noteWorthsBehind wsX5_worthBehindMove := goodIn_r _ [76, 77, 78, 79, 64, 80, 81, 82, 83, 84, 85, 86, 87, 88, 46, 43, 47, 66, 67, 68, 89, 49, 50, 90, 91, 92, 54, 93, 94, 95, 13, 96, 69, 70, 71, 72, 42, 44, 73, 74, 75, 97, 98, 99, 100, 101, 102, 103, 1, 104, 105, 106, 107, 12, 14, 108, 109, 110, 111, 112, 27, 28, 9, 29, 30, 20, 113, 32, 33, 34, 35, 114, 115, 116, 117, 118, 119, 120, 121, 122, 123, 124, 125, 128, 129] (by decide +kernel) (by decide +kernel)
set_option maxRecDepth 20000 in
theorem gX5_noteWorthsBehind_X5_worthBehindMove : GoodIn wsX5_noteWorthsBehind (wsV RX5 158 RX5 yX5_worthBehindMove wsX5_worthBehindMove) := goodIn_app (goodIn_of _ (by decide +kernel)) ggX5_noteWorthsBehind_X5_worthBehindMove
theorem dX5_noteWorthsBehind_0 : decode cX5_noteWorthsBehind 0 = .ok (.aload_n 0, 1) := by decide +kernel
theorem dX5_noteWorthsBehind_1 : decode cX5_noteWorthsBehind 1 = .ok (.getfield 22, 3) := by decide +kernel
theorem dX5_noteWorthsBehind_4 : decode cX5_noteWorthsBehind 4 = .ok (.bipush 40, 2) := by decide +kernel
theorem dX5_noteWorthsBehind_6 : decode cX5_noteWorthsBehind 6 = .ok (.invokevirtual 122, 3) := by decide +kernel
theorem dX5_noteWorthsBehind_9 : decode cX5_noteWorthsBehind 9 = .ok (.aload_n 0, 1) := by decide +kernel
theorem dX5_noteWorthsBehind_10 : decode cX5_noteWorthsBehind 10 = .ok (.aload_n 0, 1) := by decide +kernel
theorem dX5_noteWorthsBehind_11 : decode cX5_noteWorthsBehind 11 = .ok (.getfield 59, 3) := by decide +kernel
theorem dX5_noteWorthsBehind_14 : decode cX5_noteWorthsBehind 14 = .ok (.invokevirtual 66, 3) := by decide +kernel
theorem dX5_noteWorthsBehind_17 : decode cX5_noteWorthsBehind 17 = .ok (.getfield 70, 3) := by decide +kernel
theorem dX5_noteWorthsBehind_20 : decode cX5_noteWorthsBehind 20 = .ok (.lstore_n 2, 1) := by decide +kernel
theorem dX5_noteWorthsBehind_21 : decode cX5_noteWorthsBehind 21 = .ok (.aload_n 0, 1) := by decide +kernel
theorem dX5_noteWorthsBehind_22 : decode cX5_noteWorthsBehind 22 = .ok (.iconst 1, 1) := by decide +kernel
theorem dX5_noteWorthsBehind_23 : decode cX5_noteWorthsBehind 23 = .ok (.aload_n 0, 1) := by decide +kernel
theorem dX5_noteWorthsBehind_24 : decode cX5_noteWorthsBehind 24 = .ok (.getfield 59, 3) := by decide +kernel
theorem dX5_noteWorthsBehind_27 : decode cX5_noteWorthsBehind 27 = .ok (.isub, 1) := by decide +kernel
theorem dX5_noteWorthsBehind_28 : decode cX5_noteWorthsBehind 28 = .ok (.invokevirtual 66, 3) := by decide +kernel
theorem dX5_noteWorthsBehind_31 : decode cX5_noteWorthsBehind 31 = .ok (.getfield 70, 3) := by decide +kernel
theorem dX5_noteWorthsBehind_34 : decode cX5_noteWorthsBehind 34 = .ok (.lstore 4, 2) := by decide +kernel
theorem dX5_noteWorthsBehind_36 : decode cX5_noteWorthsBehind 36 = .ok (.aload_n 0, 1) := by decide +kernel
theorem dX5_noteWorthsBehind_37 : decode cX5_noteWorthsBehind 37 = .ok (.invokevirtual 146, 3) := by decide +kernel
theorem dX5_noteWorthsBehind_40 : decode cX5_noteWorthsBehind 40 = .ok (.istore 6, 2) := by decide +kernel
theorem dX5_noteWorthsBehind_42 : decode cX5_noteWorthsBehind 42 = .ok (.iconst 0, 1) := by decide +kernel
theorem dX5_noteWorthsBehind_43 : decode cX5_noteWorthsBehind 43 = .ok (.istore 7, 2) := by decide +kernel
theorem dX5_noteWorthsBehind_45 : decode cX5_noteWorthsBehind 45 = .ok (.iload 7, 2) := by decide +kernel
theorem dX5_noteWorthsBehind_47 : decode cX5_noteWorthsBehind 47 = .ok (.aload_n 0, 1) := by decide +kernel
theorem dX5_noteWorthsBehind_48 : decode cX5_noteWorthsBehind 48 = .ok (.getfield 28, 3) := by decide +kernel
theorem dX5_noteWorthsBehind_51 : decode cX5_noteWorthsBehind 51 = .ok (.arraylength, 1) := by decide +kernel
theorem dX5_noteWorthsBehind_52 : decode cX5_noteWorthsBehind 52 = .ok (.if_icmp .ge 51, 3) := by decide +kernel
theorem dX5_noteWorthsBehind_55 : decode cX5_noteWorthsBehind 55 = .ok (.aload_n 0, 1) := by decide +kernel
theorem dX5_noteWorthsBehind_56 : decode cX5_noteWorthsBehind 56 = .ok (.getfield 28, 3) := by decide +kernel
theorem dX5_noteWorthsBehind_59 : decode cX5_noteWorthsBehind 59 = .ok (.iload 7, 2) := by decide +kernel
theorem dX5_noteWorthsBehind_61 : decode cX5_noteWorthsBehind 61 = .ok (.lload_n 2, 1) := by decide +kernel
theorem dX5_noteWorthsBehind_62 : decode cX5_noteWorthsBehind 62 = .ok (.lload 4, 2) := by decide +kernel
theorem dX5_noteWorthsBehind_64 : decode cX5_noteWorthsBehind 64 = .ok (.iload 7, 2) := by decide +kernel
theorem dX5_noteWorthsBehind_66 : decode cX5_noteWorthsBehind 66 = .ok (.aload_n 0, 1) := by decide +kernel
theorem dX5_noteWorthsBehind_67 : decode cX5_noteWorthsBehind 67 = .ok (.getfield 46, 3) := by decide +kernel
theorem dX5_noteWorthsBehind_70 : decode cX5_noteWorthsBehind 70 = .ok (.invokestatic 142, 3) := by decide +kernel
theorem dX5_noteWorthsBehind_73 : decode cX5_noteWorthsBehind 73 = .ok (.ifCond .eq 22, 3) := by decide +kernel
theorem dX5_noteWorthsBehind_76 : decode cX5_noteWorthsBehind 76 = .ok (.aload_n 0, 1) := by decide +kernel
theorem dX5_noteWorthsBehind_77 : decode cX5_noteWorthsBehind 77 = .ok (.lload_n 2, 1) := by decide +kernel
theorem dX5_noteWorthsBehind_78 : decode cX5_noteWorthsBehind 78 = .ok (.lload 4, 2) := by decide +kernel
theorem dX5_noteWorthsBehind_80 : decode cX5_noteWorthsBehind 80 = .ok (.iload 6, 2) := by decide +kernel
theorem dX5_noteWorthsBehind_82 : decode cX5_noteWorthsBehind 82 = .ok (.iload 7, 2) := by decide +kernel
theorem dX5_noteWorthsBehind_84 : decode cX5_noteWorthsBehind 84 = .ok (.aload_n 0, 1) := by decide +kernel
theorem dX5_noteWorthsBehind_85 : decode cX5_noteWorthsBehind 85 = .ok (.getfield 46, 3) := by decide +kernel
theorem dX5_noteWorthsBehind_88 : decode cX5_noteWorthsBehind 88 = .ok (.iload_n 1, 1) := by decide +kernel
theorem dX5_noteWorthsBehind_89 : decode cX5_noteWorthsBehind 89 = .ok (.invokevirtual 158, 3) := by decide +kernel
theorem dX5_noteWorthsBehind_92 : decode cX5_noteWorthsBehind 92 = .ok (.goto 4, 3) := by decide +kernel
theorem dX5_noteWorthsBehind_95 : decode cX5_noteWorthsBehind 95 = .ok (.iconst (-1), 1) := by decide +kernel
theorem dX5_noteWorthsBehind_96 : decode cX5_noteWorthsBehind 96 = .ok (.iastore, 1) := by decide +kernel
theorem dX5_noteWorthsBehind_97 : decode cX5_noteWorthsBehind 97 = .ok (.iinc 7 1, 3) := by decide +kernel
theorem dX5_noteWorthsBehind_100 : decode cX5_noteWorthsBehind 100 = .ok (.goto (-55), 3) := by decide +kernel
theorem dX5_noteWorthsBehind_103 : decode cX5_noteWorthsBehind 103 = .ok (.return_, 1) := by decide +kernel
theorem dX5_countBetter_0 : decode cX5_countBetter 0 = .ok (.iconst 0, 1) := by decide +kernel
theorem dX5_countBetter_1 : decode cX5_countBetter 1 = .ok (.istore_n 3, 1) := by decide +kernel
theorem dX5_countBetter_2 : decode cX5_countBetter 2 = .ok (.iconst 0, 1) := by decide +kernel
theorem dX5_countBetter_3 : decode cX5_countBetter 3 = .ok (.istore 4, 2) := by decide +kernel
theorem dX5_countBetter_5 : decode cX5_countBetter 5 = .ok (.iload 4, 2) := by decide +kernel
theorem dX5_countBetter_7 : decode cX5_countBetter 7 = .ok (.aload_n 0, 1) := by decide +kernel
theorem dX5_countBetter_8 : decode cX5_countBetter 8 = .ok (.getfield 28, 3) := by decide +kernel
theorem dX5_countBetter_11 : decode cX5_countBetter 11 = .ok (.arraylength, 1) := by decide +kernel
theorem dX5_countBetter_12 : decode cX5_countBetter 12 = .ok (.if_icmp .ge 40, 3) := by decide +kernel
theorem dX5_countBetter_15 : decode cX5_countBetter 15 = .ok (.aload_n 0, 1) := by decide +kernel
theorem dX5_countBetter_16 : decode cX5_countBetter 16 = .ok (.getfield 28, 3) := by decide +kernel
theorem dX5_countBetter_19 : decode cX5_countBetter 19 = .ok (.iload 4, 2) := by decide +kernel
theorem dX5_countBetter_21 : decode cX5_countBetter 21 = .ok (.iaload, 1) := by decide +kernel
theorem dX5_countBetter_22 : decode cX5_countBetter 22 = .ok (.iload_n 2, 1) := by decide +kernel
theorem dX5_countBetter_23 : decode cX5_countBetter 23 = .ok (.if_icmp .gt 20, 3) := by decide +kernel
theorem dX5_countBetter_26 : decode cX5_countBetter 26 = .ok (.aload_n 0, 1) := by decide +kernel
theorem dX5_countBetter_27 : decode cX5_countBetter 27 = .ok (.getfield 28, 3) := by decide +kernel
theorem dX5_countBetter_30 : decode cX5_countBetter 30 = .ok (.iload 4, 2) := by decide +kernel
theorem dX5_countBetter_32 : decode cX5_countBetter 32 = .ok (.iaload, 1) := by decide +kernel
theorem dX5_countBetter_33 : decode cX5_countBetter 33 = .ok (.iload_n 2, 1) := by decide +kernel
theorem dX5_countBetter_34 : decode cX5_countBetter 34 = .ok (.if_icmp .ne 12, 3) := by decide +kernel
theorem dX5_countBetter_37 : decode cX5_countBetter 37 = .ok (.iload 4, 2) := by decide +kernel
theorem dX5_countBetter_39 : decode cX5_countBetter 39 = .ok (.iload_n 1, 1) := by decide +kernel
theorem dX5_countBetter_40 : decode cX5_countBetter 40 = .ok (.if_icmp .ge 6, 3) := by decide +kernel
theorem dX5_countBetter_43 : decode cX5_countBetter 43 = .ok (.iinc 3 1, 3) := by decide +kernel
theorem dX5_countBetter_46 : decode cX5_countBetter 46 = .ok (.iinc 4 1, 3) := by decide +kernel
theorem dX5_countBetter_49 : decode cX5_countBetter 49 = .ok (.goto (-44), 3) := by decide +kernel
theorem dX5_countBetter_52 : decode cX5_countBetter 52 = .ok (.iload_n 3, 1) := by decide +kernel
theorem dX5_countBetter_53 : decode cX5_countBetter 53 = .ok (.ireturn, 1) := by decide +kernel
set_option maxRecDepth 20000 in
theorem ggX5_worthToThrow_X5_worthAtOnce : GoodIn wsX5_worthToThrow wsX5_worthAtOnce := goodIn_r _ [6, 7, 8, 9, 10, 11, 12, 13, 14, 15, 16, 17, 18, 19, 20, 21, 22, 23, 24, 25, 26, 27, 28, 29, 30, 31, 32, 33, 74, 75, 76, 77, 78, 79, 80, 81, 82, 83, 84] (by decide +kernel) (by decide +kernel)
set_option maxRecDepth 20000 in
theorem gX5_worthToThrow_X5_worthAtOnce : GoodIn wsX5_worthToThrow (wsV RX5 162 RX5 yX5_worthAtOnce wsX5_worthAtOnce) := goodIn_app (goodIn_of _ (by decide +kernel)) ggX5_worthToThrow_X5_worthAtOnce
set_option maxRecDepth 20000 in
theorem ggX5_worthToThrow_X0_timesIn16 : GoodIn wsX5_worthToThrow wsX0_timesIn16 := goodIn_r _ [37, 38] (by decide +kernel) (by decide +kernel)
set_option maxRecDepth 20000 in
theorem gX5_worthToThrow_X0_timesIn16 : GoodIn wsX5_worthToThrow (va_wsS RX5 166 yX0_timesIn16 wsX0_timesIn16) := goodIn_app (goodIn_of _ (by decide +kernel)) ggX5_worthToThrow_X0_timesIn16
set_option maxRecDepth 20000 in
theorem ggX5_worthToThrow_X5_worthBehindThrow : GoodIn wsX5_worthToThrow wsX5_worthBehindThrow := goodIn_r _ [64, 11, 12, 13, 14, 43, 65, 66, 21, 67, 26, 20, 22, 68, 69, 56, 70, 71, 72, 73, 5, 61, 62, 63, 42, 44, 45, 46, 47, 48, 49, 50, 51, 52, 53, 54, 55, 57, 58, 59, 60, 0, 1, 2, 3, 4, 6, 7, 8, 9, 10, 15, 16, 17, 18, 19, 23, 24, 25, 27, 28, 29, 30, 31, 32, 33, 34, 35, 36, 37, 38, 39, 40, 41, 74, 75, 76, 77, 78, 79, 80, 81, 82, 83, 84] (by decide +kernel) (by decide +kernel)
set_option maxRecDepth 20000 in
theorem gX5_worthToThrow_X5_worthBehindThrow : GoodIn wsX5_worthToThrow (wsV RX5 154 RX5 yX5_worthBehindThrow wsX5_worthBehindThrow) := goodIn_app (goodIn_of _ (by decide +kernel)) ggX5_worthToThrow_X5_worthBehindThrow
theorem dX5_worthToThrow_0 : decode cX5_worthToThrow 0 = .ok (.iload 6, 2) := by decide +kernel
theorem dX5_worthToThrow_2 : decode cX5_worthToThrow 2 = .ok (.ifCond .gt 12, 3) := by decide +kernel
theorem dX5_worthToThrow_5 : decode cX5_worthToThrow 5 = .ok (.aload_n 0, 1) := by decide +kernel
theorem dX5_worthToThrow_6 : decode cX5_worthToThrow 6 = .ok (.lload_n 1, 1) := by decide +kernel
theorem dX5_worthToThrow_7 : decode cX5_worthToThrow 7 = .ok (.lload_n 3, 1) := by decide +kernel
theorem dX5_worthToThrow_8 : decode cX5_worthToThrow 8 = .ok (.iload 5, 2) := by decide +kernel
theorem dX5_worthToThrow_10 : decode cX5_worthToThrow 10 = .ok (.invokevirtual 162, 3) := by decide +kernel
theorem dX5_worthToThrow_13 : decode cX5_worthToThrow 13 = .ok (.ireturn, 1) := by decide +kernel
theorem dX5_worthToThrow_14 : decode cX5_worthToThrow 14 = .ok (.lconst 0, 1) := by decide +kernel
theorem dX5_worthToThrow_15 : decode cX5_worthToThrow 15 = .ok (.lstore 7, 2) := by decide +kernel
theorem dX5_worthToThrow_17 : decode cX5_worthToThrow 17 = .ok (.iconst 0, 1) := by decide +kernel
theorem dX5_worthToThrow_18 : decode cX5_worthToThrow 18 = .ok (.istore 9, 2) := by decide +kernel
theorem dX5_worthToThrow_20 : decode cX5_worthToThrow 20 = .ok (.iload 9, 2) := by decide +kernel
theorem dX5_worthToThrow_22 : decode cX5_worthToThrow 22 = .ok (.iconst 4, 1) := by decide +kernel
theorem dX5_worthToThrow_23 : decode cX5_worthToThrow 23 = .ok (.if_icmp .gt 36, 3) := by decide +kernel
theorem dX5_worthToThrow_26 : decode cX5_worthToThrow 26 = .ok (.lload 7, 2) := by decide +kernel
theorem dX5_worthToThrow_28 : decode cX5_worthToThrow 28 = .ok (.iload 9, 2) := by decide +kernel
theorem dX5_worthToThrow_30 : decode cX5_worthToThrow 30 = .ok (.invokestatic 166, 3) := by decide +kernel
theorem dX5_worthToThrow_33 : decode cX5_worthToThrow 33 = .ok (.i2l, 1) := by decide +kernel
theorem dX5_worthToThrow_34 : decode cX5_worthToThrow 34 = .ok (.aload_n 0, 1) := by decide +kernel
theorem dX5_worthToThrow_35 : decode cX5_worthToThrow 35 = .ok (.lload_n 1, 1) := by decide +kernel
theorem dX5_worthToThrow_36 : decode cX5_worthToThrow 36 = .ok (.lload_n 3, 1) := by decide +kernel
theorem dX5_worthToThrow_37 : decode cX5_worthToThrow 37 = .ok (.iload 5, 2) := by decide +kernel
theorem dX5_worthToThrow_39 : decode cX5_worthToThrow 39 = .ok (.iload 9, 2) := by decide +kernel
theorem dX5_worthToThrow_41 : decode cX5_worthToThrow 41 = .ok (.iload 6, 2) := by decide +kernel
theorem dX5_worthToThrow_43 : decode cX5_worthToThrow 43 = .ok (.iconst 1, 1) := by decide +kernel
theorem dX5_worthToThrow_44 : decode cX5_worthToThrow 44 = .ok (.isub, 1) := by decide +kernel
theorem dX5_worthToThrow_45 : decode cX5_worthToThrow 45 = .ok (.invokevirtual 154, 3) := by decide +kernel
theorem dX5_worthToThrow_48 : decode cX5_worthToThrow 48 = .ok (.i2l, 1) := by decide +kernel
theorem dX5_worthToThrow_49 : decode cX5_worthToThrow 49 = .ok (.lmul, 1) := by decide +kernel
theorem dX5_worthToThrow_50 : decode cX5_worthToThrow 50 = .ok (.ladd, 1) := by decide +kernel
theorem dX5_worthToThrow_51 : decode cX5_worthToThrow 51 = .ok (.lstore 7, 2) := by decide +kernel
theorem dX5_worthToThrow_53 : decode cX5_worthToThrow 53 = .ok (.iinc 9 1, 3) := by decide +kernel
theorem dX5_worthToThrow_56 : decode cX5_worthToThrow 56 = .ok (.goto (-36), 3) := by decide +kernel
theorem dX5_worthToThrow_59 : decode cX5_worthToThrow 59 = .ok (.lload 7, 2) := by decide +kernel
theorem dX5_worthToThrow_61 : decode cX5_worthToThrow 61 = .ok (.ldc2_w 169, 3) := by decide +kernel
theorem dX5_worthToThrow_64 : decode cX5_worthToThrow 64 = .ok (.ldiv, 1) := by decide +kernel
theorem dX5_worthToThrow_65 : decode cX5_worthToThrow 65 = .ok (.l2i, 1) := by decide +kernel
theorem dX5_worthToThrow_66 : decode cX5_worthToThrow 66 = .ok (.ireturn, 1) := by decide +kernel
set_option maxRecDepth 20000 in
theorem ggX5_worthBehindThrow_X2_canMove : GoodIn wsX5_worthBehindThrow wsX2_canMove := goodIn_r _ [9, 10, 11, 8, 12, 13, 14, 15, 16] (by decide +kernel) (by decide +kernel)
set_option maxRecDepth 20000 in
theorem gX5_worthBehindThrow_X2_canMove : GoodIn wsX5_worthBehindThrow (va_wsS RX5 142 yX2_canMove wsX2_canMove) := goodIn_app (goodIn_of _ (by decide +kernel)) ggX5_worthBehindThrow_X2_canMove
set_option maxRecDepth 20000 in
theorem ggX5_worthBehindThrow_X5_worthBehindMove : GoodIn wsX5_worthBehindThrow wsX5_worthBehindMove := goodIn_r _ [24, 5, 25, 26, 8, 27, 28, 29, 30, 31, 32, 33, 34, 35, 36, 15, 37, 10, 11, 12, 38, 39, 40, 21, 22, 23, 20, 0, 1, 2, 3, 4, 6, 7, 9, 13, 14, 16, 17, 18, 19, 41, 42, 43, 44, 45, 46, 47, 48, 49, 50, 51, 52, 53, 54, 55, 56, 57, 58, 59, 60, 61, 62, 63, 64, 65, 66, 67, 68, 69, 70, 71, 72, 73, 74, 75, 76, 77, 78, 79, 80, 81, 82, 83, 84] (by decide +kernel) (by decide +kernel)
set_option maxRecDepth 20000 in
theorem gX5_worthBehindThrow_X5_worthBehindMove : GoodIn wsX5_worthBehindThrow (wsV RX5 158 RX5 yX5_worthBehindMove wsX5_worthBehindMove) := goodIn_app (goodIn_of _ (by decide +kernel)) ggX5_worthBehindThrow_X5_worthBehindMove
set_option maxRecDepth 20000 in
theorem ggX5_worthBehindThrow_X5_worthToThrow : GoodIn wsX5_worthBehindThrow wsX5_worthToThrow := goodIn_r _ [41, 42, 43, 44, 45, 20, 46, 47, 48, 49, 50, 1, 2, 3, 4, 51, 52, 53, 54, 55, 11, 8, 12, 56, 57, 58, 10, 59, 60, 61, 62, 63, 64, 65, 66, 67, 68, 69, 70, 71, 72, 73, 24, 5, 25, 26, 27, 28, 29, 30, 31, 32, 33, 34, 35, 36, 15, 37, 38, 39, 40, 21, 22, 23, 0, 6, 7, 9, 13, 14, 16, 17, 18, 19, 74, 75, 76, 77, 78, 79, 80, 81, 82, 83, 84] (by decide +kernel) (by decide +kernel)
set_option maxRecDepth 20000 in
theorem gX5_worthBehindThrow_X5_worthToThrow : GoodIn wsX5_worthBehindThrow (wsV RX5 150 RX5 yX5_worthToThrow wsX5_worthToThrow) := goodIn_app (goodIn_of _ (by decide +kernel)) ggX5_worthBehindThrow_X5_worthToThrow
theorem dX5_worthBehindThrow_0 : decode cX5_worthBehindThrow 0 = .ok (.iconst (-1), 1) := by decide +kernel
theorem dX5_worthBehindThrow_1 : decode cX5_worthBehindThrow 1 = .ok (.istore 8, 2) := by decide +kernel
theorem dX5_worthBehindThrow_3 : decode cX5_worthBehindThrow 3 = .ok (.iconst 0, 1) := by decide +kernel
theorem dX5_worthBehindThrow_4 : decode cX5_worthBehindThrow 4 = .ok (.istore 9, 2) := by decide +kernel
theorem dX5_worthBehindThrow_6 : decode cX5_worthBehindThrow 6 = .ok (.iload 9, 2) := by decide +kernel
theorem dX5_worthBehindThrow_8 : decode cX5_worthBehindThrow 8 = .ok (.bipush 14, 2) := by decide +kernel
theorem dX5_worthBehindThrow_10 : decode cX5_worthBehindThrow 10 = .ok (.if_icmp .gt 42, 3) := by decide +kernel
theorem dX5_worthBehindThrow_13 : decode cX5_worthBehindThrow 13 = .ok (.lload_n 1, 1) := by decide +kernel
theorem dX5_worthBehindThrow_14 : decode cX5_worthBehindThrow 14 = .ok (.lload_n 3, 1) := by decide +kernel
theorem dX5_worthBehindThrow_15 : decode cX5_worthBehindThrow 15 = .ok (.iload 9, 2) := by decide +kernel
theorem dX5_worthBehindThrow_17 : decode cX5_worthBehindThrow 17 = .ok (.iload 6, 2) := by decide +kernel
theorem dX5_worthBehindThrow_19 : decode cX5_worthBehindThrow 19 = .ok (.invokestatic 142, 3) := by decide +kernel
theorem dX5_worthBehindThrow_22 : decode cX5_worthBehindThrow 22 = .ok (.ifCond .eq 24, 3) := by decide +kernel
theorem dX5_worthBehindThrow_25 : decode cX5_worthBehindThrow 25 = .ok (.iload 8, 2) := by decide +kernel
theorem dX5_worthBehindThrow_27 : decode cX5_worthBehindThrow 27 = .ok (.aload_n 0, 1) := by decide +kernel
theorem dX5_worthBehindThrow_28 : decode cX5_worthBehindThrow 28 = .ok (.lload_n 1, 1) := by decide +kernel
theorem dX5_worthBehindThrow_29 : decode cX5_worthBehindThrow 29 = .ok (.lload_n 3, 1) := by decide +kernel
theorem dX5_worthBehindThrow_30 : decode cX5_worthBehindThrow 30 = .ok (.iload 5, 2) := by decide +kernel
theorem dX5_worthBehindThrow_32 : decode cX5_worthBehindThrow 32 = .ok (.iload 9, 2) := by decide +kernel
theorem dX5_worthBehindThrow_34 : decode cX5_worthBehindThrow 34 = .ok (.iload 6, 2) := by decide +kernel
theorem dX5_worthBehindThrow_36 : decode cX5_worthBehindThrow 36 = .ok (.iload 7, 2) := by decide +kernel
theorem dX5_worthBehindThrow_38 : decode cX5_worthBehindThrow 38 = .ok (.invokevirtual 158, 3) := by decide +kernel
theorem dX5_worthBehindThrow_41 : decode cX5_worthBehindThrow 41 = .ok (.invokestatic 171, 3) := by decide +kernel
theorem dX5_worthBehindThrow_44 : decode cX5_worthBehindThrow 44 = .ok (.istore 8, 2) := by decide +kernel
theorem dX5_worthBehindThrow_46 : decode cX5_worthBehindThrow 46 = .ok (.iinc 9 1, 3) := by decide +kernel
theorem dX5_worthBehindThrow_49 : decode cX5_worthBehindThrow 49 = .ok (.goto (-43), 3) := by decide +kernel
theorem dX5_worthBehindThrow_52 : decode cX5_worthBehindThrow 52 = .ok (.iload 8, 2) := by decide +kernel
theorem dX5_worthBehindThrow_54 : decode cX5_worthBehindThrow 54 = .ok (.iconst (-1), 1) := by decide +kernel
theorem dX5_worthBehindThrow_55 : decode cX5_worthBehindThrow 55 = .ok (.if_icmp .eq 8, 3) := by decide +kernel
theorem dX5_worthBehindThrow_58 : decode cX5_worthBehindThrow 58 = .ok (.iload 8, 2) := by decide +kernel
theorem dX5_worthBehindThrow_60 : decode cX5_worthBehindThrow 60 = .ok (.goto 17, 3) := by decide +kernel
theorem dX5_worthBehindThrow_63 : decode cX5_worthBehindThrow 63 = .ok (.ldc 105, 2) := by decide +kernel
theorem dX5_worthBehindThrow_65 : decode cX5_worthBehindThrow 65 = .ok (.aload_n 0, 1) := by decide +kernel
theorem dX5_worthBehindThrow_66 : decode cX5_worthBehindThrow 66 = .ok (.lload_n 3, 1) := by decide +kernel
theorem dX5_worthBehindThrow_67 : decode cX5_worthBehindThrow 67 = .ok (.lload_n 1, 1) := by decide +kernel
theorem dX5_worthBehindThrow_68 : decode cX5_worthBehindThrow 68 = .ok (.iload 5, 2) := by decide +kernel
theorem dX5_worthBehindThrow_70 : decode cX5_worthBehindThrow 70 = .ok (.ineg, 1) := by decide +kernel
theorem dX5_worthBehindThrow_71 : decode cX5_worthBehindThrow 71 = .ok (.iload 7, 2) := by decide +kernel
theorem dX5_worthBehindThrow_73 : decode cX5_worthBehindThrow 73 = .ok (.invokevirtual 150, 3) := by decide +kernel
theorem dX5_worthBehindThrow_76 : decode cX5_worthBehindThrow 76 = .ok (.isub, 1) := by decide +kernel
theorem dX5_worthBehindThrow_77 : decode cX5_worthBehindThrow 77 = .ok (.ireturn, 1) := by decide +kernel
set_option maxRecDepth 20000 in
theorem ggX5_worthBehindMove_X2_shifted : GoodIn wsX5_worthBehindMove wsX2_shifted := goodIn_r _ [5] (by decide +kernel) (by decide +kernel)
set_option maxRecDepth 20000 in
theorem gX5_worthBehindMove_X2_shifted : GoodIn wsX5_worthBehindMove (va_wsS RX5 74 yX2_shifted wsX2_shifted) := goodIn_app (goodIn_of _ (by decide +kernel)) ggX5_worthBehindMove_X2_shifted
set_option maxRecDepth 20000 in
theorem ggX5_worthBehindMove_X2_isAllHome : GoodIn wsX5_worthBehindMove wsX2_isAllHome := goodIn_r _ [8, 9] (by decide +kernel) (by decide +kernel)
set_option maxRecDepth 20000 in
theorem gX5_worthBehindMove_X2_isAllHome : GoodIn wsX5_worthBehindMove (va_wsS RX5 87 yX2_isAllHome wsX2_isAllHome) := goodIn_app (goodIn_of _ (by decide +kernel)) ggX5_worthBehindMove_X2_isAllHome
set_option maxRecDepth 20000 in
theorem ggX5_worthBehindMove_X2_canBeTaken : GoodIn wsX5_worthBehindMove wsX2_canBeTaken := goodIn_r _ [12, 13, 14, 15, 16, 17, 18, 4, 19] (by decide +kernel) (by decide +kernel)
set_option maxRecDepth 20000 in
theorem gX5_worthBehindMove_X2_canBeTaken : GoodIn wsX5_worthBehindMove (va_wsS RX5 80 yX2_canBeTaken wsX2_canBeTaken) := goodIn_app (goodIn_of _ (by decide +kernel)) ggX5_worthBehindMove_X2_canBeTaken
set_option maxRecDepth 20000 in
theorem ggX5_worthBehindMove_X4_isRosette : GoodIn wsX5_worthBehindMove wsX4_isRosette := goodIn_r _ [22] (by decide +kernel) (by decide +kernel)
set_option maxRecDepth 20000 in
theorem gX5_worthBehindMove_X4_isRosette : GoodIn wsX5_worthBehindMove (va_wsS RX5 91 yX4_isRosette wsX4_isRosette) := goodIn_app (goodIn_of _ (by decide +kernel)) ggX5_worthBehindMove_X4_isRosette
set_option maxRecDepth 20000 in
theorem ggX5_worthBehindMove_X5_worthToThrow : GoodIn wsX5_worthBehindMove wsX5_worthToThrow := goodIn_r _ [41, 42, 43, 44, 45, 26, 46, 47, 48, 49, 50, 28, 29, 30, 31, 51, 52, 53, 54, 55, 18, 4, 19, 56, 57, 58, 17, 59, 60, 61, 62, 63, 64, 65, 66, 67, 68, 69, 70, 71, 72, 73, 0, 1, 2, 3, 5, 6, 7, 8, 9, 10, 11, 12, 13, 14, 15, 16, 20, 21, 22, 23, 24, 25, 27, 32, 33, 34, 35, 36, 37, 38, 39, 40, 74, 75, 76, 77, 78, 79, 80, 81, 82, 83, 84] (by decide +kernel) (by decide +kernel)
set_option maxRecDepth 20000 in
theorem gX5_worthBehindMove_X5_worthToThrow : GoodIn wsX5_worthBehindMove (wsV RX5 150 RX5 yX5_worthToThrow wsX5_worthToThrow) := goodIn_app (goodIn_of _ (by decide +kernel)) ggX5_worthBehindMove_X5_worthToThrow
theorem dX5_worthBehindMove_0 : decode cX5_worthBehindMove 0 = .ok (.iload 6, 2) := by decide +kernel
theorem dX5_worthBehindMove_2 : decode cX5_worthBehindMove 2 = .ok (.iload 7, 2) := by decide +kernel
theorem dX5_worthBehindMove_4 : decode cX5_worthBehindMove 4 = .ok (.iadd, 1) := by decide +kernel
theorem dX5_worthBehindMove_5 : decode cX5_worthBehindMove 5 = .ok (.istore 9, 2) := by decide +kernel
theorem dX5_worthBehindMove_7 : decode cX5_worthBehindMove 7 = .ok (.lload_n 1, 1) := by decide +kernel
theorem dX5_worthBehindMove_8 : decode cX5_worthBehindMove 8 = .ok (.iload 6, 2) := by decide +kernel
theorem dX5_worthBehindMove_10 : decode cX5_worthBehindMove 10 = .ok (.iload 9, 2) := by decide +kernel
theorem dX5_worthBehindMove_12 : decode cX5_worthBehindMove 12 = .ok (.invokestatic 74, 3) := by decide +kernel
theorem dX5_worthBehindMove_15 : decode cX5_worthBehindMove 15 = .ok (.lstore 10, 2) := by decide +kernel
theorem dX5_worthBehindMove_17 : decode cX5_worthBehindMove 17 = .ok (.lload 10, 2) := by decide +kernel
theorem dX5_worthBehindMove_19 : decode cX5_worthBehindMove 19 = .ok (.invokestatic 87, 3) := by decide +kernel
theorem dX5_worthBehindMove_22 : decode cX5_worthBehindMove 22 = .ok (.ifCond .eq 6, 3) := by decide +kernel
theorem dX5_worthBehindMove_25 : decode cX5_worthBehindMove 25 = .ok (.ldc 105, 2) := by decide +kernel
theorem dX5_worthBehindMove_27 : decode cX5_worthBehindMove 27 = .ok (.ireturn, 1) := by decide +kernel
theorem dX5_worthBehindMove_28 : decode cX5_worthBehindMove 28 = .ok (.lload_n 3, 1) := by decide +kernel
theorem dX5_worthBehindMove_29 : decode cX5_worthBehindMove 29 = .ok (.lstore 12, 2) := by decide +kernel
theorem dX5_worthBehindMove_31 : decode cX5_worthBehindMove 31 = .ok (.iload 5, 2) := by decide +kernel
theorem dX5_worthBehindMove_33 : decode cX5_worthBehindMove 33 = .ok (.iload 7, 2) := by decide +kernel
theorem dX5_worthBehindMove_35 : decode cX5_worthBehindMove 35 = .ok (.iadd, 1) := by decide +kernel
theorem dX5_worthBehindMove_36 : decode cX5_worthBehindMove 36 = .ok (.istore 14, 2) := by decide +kernel
theorem dX5_worthBehindMove_38 : decode cX5_worthBehindMove 38 = .ok (.lload_n 3, 1) := by decide +kernel
theorem dX5_worthBehindMove_39 : decode cX5_worthBehindMove 39 = .ok (.iload 9, 2) := by decide +kernel
theorem dX5_worthBehindMove_41 : decode cX5_worthBehindMove 41 = .ok (.invokestatic 80, 3) := by decide +kernel
theorem dX5_worthBehindMove_44 : decode cX5_worthBehindMove 44 = .ok (.ifCond .eq 19, 3) := by decide +kernel
theorem dX5_worthBehindMove_47 : decode cX5_worthBehindMove 47 = .ok (.lload_n 3, 1) := by decide +kernel
theorem dX5_worthBehindMove_48 : decode cX5_worthBehindMove 48 = .ok (.iload 9, 2) := by decide +kernel
theorem dX5_worthBehindMove_50 : decode cX5_worthBehindMove 50 = .ok (.iconst 0, 1) := by decide +kernel
theorem dX5_worthBehindMove_51 : decode cX5_worthBehindMove 51 = .ok (.invokestatic 74, 3) := by decide +kernel
theorem dX5_worthBehindMove_54 : decode cX5_worthBehindMove 54 = .ok (.lstore 12, 2) := by decide +kernel
theorem dX5_worthBehindMove_56 : decode cX5_worthBehindMove 56 = .ok (.iload 14, 2) := by decide +kernel
theorem dX5_worthBehindMove_58 : decode cX5_worthBehindMove 58 = .ok (.iload 9, 2) := by decide +kernel
theorem dX5_worthBehindMove_60 : decode cX5_worthBehindMove 60 = .ok (.iadd, 1) := by decide +kernel
theorem dX5_worthBehindMove_61 : decode cX5_worthBehindMove 61 = .ok (.istore 14, 2) := by decide +kernel
theorem dX5_worthBehindMove_63 : decode cX5_worthBehindMove 63 = .ok (.iload 9, 2) := by decide +kernel
theorem dX5_worthBehindMove_65 : decode cX5_worthBehindMove 65 = .ok (.invokestatic 91, 3) := by decide +kernel
theorem dX5_worthBehindMove_68 : decode cX5_worthBehindMove 68 = .ok (.ifCond .eq 16, 3) := by decide +kernel
theorem dX5_worthBehindMove_71 : decode cX5_worthBehindMove 71 = .ok (.aload_n 0, 1) := by decide +kernel
theorem dX5_worthBehindMove_72 : decode cX5_worthBehindMove 72 = .ok (.lload 10, 2) := by decide +kernel
theorem dX5_worthBehindMove_74 : decode cX5_worthBehindMove 74 = .ok (.lload 12, 2) := by decide +kernel
theorem dX5_worthBehindMove_76 : decode cX5_worthBehindMove 76 = .ok (.iload 14, 2) := by decide +kernel
theorem dX5_worthBehindMove_78 : decode cX5_worthBehindMove 78 = .ok (.iload 8, 2) := by decide +kernel
theorem dX5_worthBehindMove_80 : decode cX5_worthBehindMove 80 = .ok (.invokevirtual 150, 3) := by decide +kernel
theorem dX5_worthBehindMove_83 : decode cX5_worthBehindMove 83 = .ok (.ireturn, 1) := by decide +kernel
theorem dX5_worthBehindMove_84 : decode cX5_worthBehindMove 84 = .ok (.ldc 105, 2) := by decide +kernel
theorem dX5_worthBehindMove_86 : decode cX5_worthBehindMove 86 = .ok (.aload_n 0, 1) := by decide +kernel
theorem dX5_worthBehindMove_87 : decode cX5_worthBehindMove 87 = .ok (.lload 12, 2) := by decide +kernel
theorem dX5_worthBehindMove_89 : decode cX5_worthBehindMove 89 = .ok (.lload 10, 2) := by decide +kernel
theorem dX5_worthBehindMove_91 : decode cX5_worthBehindMove 91 = .ok (.iload 14, 2) := by decide +kernel
theorem dX5_worthBehindMove_93 : decode cX5_worthBehindMove 93 = .ok (.ineg, 1) := by decide +kernel
theorem dX5_worthBehindMove_94 : decode cX5_worthBehindMove 94 = .ok (.iload 8, 2) := by decide +kernel
theorem dX5_worthBehindMove_96 : decode cX5_worthBehindMove 96 = .ok (.invokevirtual 150, 3) := by decide +kernel
theorem dX5_worthBehindMove_99 : decode cX5_worthBehindMove 99 = .ok (.isub, 1) := by decide +kernel
theorem dX5_worthBehindMove_100 : decode cX5_worthBehindMove 100 = .ok (.ireturn, 1) := by decide +kernel
set_option maxRecDepth 20000 in
theorem ggX5_worthAtOnce_X2_countAt : GoodIn wsX5_worthAtOnce wsX2_countAt := goodIn_r _ [16] (by decide +kernel) (by decide +kernel)
set_option maxRecDepth 20000 in
theorem gX5_worthAtOnce_X2_countAt : GoodIn wsX5_worthAtOnce (va_wsS RX5 94 yX2_countAt wsX2_countAt) := goodIn_app (goodIn_of _ (by decide +kernel)) ggX5_worthAtOnce_X2_countAt
set_option maxRecDepth 20000 in
theorem ggX5_worthAtOnce_X2_firstPlace : GoodIn wsX5_worthAtOnce wsX2_firstPlace := goodIn_r _ [19, 20, 14, 15, 16] (by decide +kernel) (by decide +kernel)
set_option maxRecDepth 20000 in
theorem gX5_worthAtOnce_X2_firstPlace : GoodIn wsX5_worthAtOnce (va_wsS RX5 176 yX2_firstPlace wsX2_firstPlace) := goodIn_app (goodIn_of _ (by decide +kernel)) ggX5_worthAtOnce_X2_firstPlace
set_option maxRecDepth 20000 in
theorem ggX5_worthAtOnce_X1_held : GoodIn wsX5_worthAtOnce wsX1_held := goodIn_r _ [25, 26, 27, 37, 38] (by decide +kernel) (by decide +kernel)
set_option maxRecDepth 20000 in
theorem gX5_worthAtOnce_X1_held : GoodIn wsX5_worthAtOnce (wsV RX5 125 RX1 yX1_held wsX1_held) := goodIn_app (goodIn_of _ (by decide +kernel)) ggX5_worthAtOnce_X1_held
theorem dX5_worthAtOnce_0 : decode cX5_worthAtOnce 0 = .ok (.aload_n 0, 1) := by decide +kernel
theorem dX5_worthAtOnce_1 : decode cX5_worthAtOnce 1 = .ok (.getfield 135, 3) := by decide +kernel
theorem dX5_worthAtOnce_4 : decode cX5_worthAtOnce 4 = .ok (.iconst 1, 1) := by decide +kernel
theorem dX5_worthAtOnce_5 : decode cX5_worthAtOnce 5 = .ok (.isub, 1) := by decide +kernel
theorem dX5_worthAtOnce_6 : decode cX5_worthAtOnce 6 = .ok (.istore 6, 2) := by decide +kernel
theorem dX5_worthAtOnce_8 : decode cX5_worthAtOnce 8 = .ok (.lload_n 1, 1) := by decide +kernel
theorem dX5_worthAtOnce_9 : decode cX5_worthAtOnce 9 = .ok (.bipush 15, 2) := by decide +kernel
theorem dX5_worthAtOnce_11 : decode cX5_worthAtOnce 11 = .ok (.invokestatic 94, 3) := by decide +kernel
theorem dX5_worthAtOnce_14 : decode cX5_worthAtOnce 14 = .ok (.iload 6, 2) := by decide +kernel
theorem dX5_worthAtOnce_16 : decode cX5_worthAtOnce 16 = .ok (.if_icmp .ne 32, 3) := by decide +kernel
theorem dX5_worthAtOnce_19 : decode cX5_worthAtOnce 19 = .ok (.lload_n 3, 1) := by decide +kernel
theorem dX5_worthAtOnce_20 : decode cX5_worthAtOnce 20 = .ok (.bipush 15, 2) := by decide +kernel
theorem dX5_worthAtOnce_22 : decode cX5_worthAtOnce 22 = .ok (.invokestatic 94, 3) := by decide +kernel
theorem dX5_worthAtOnce_25 : decode cX5_worthAtOnce 25 = .ok (.iload 6, 2) := by decide +kernel
theorem dX5_worthAtOnce_27 : decode cX5_worthAtOnce 27 = .ok (.if_icmp .ne 21, 3) := by decide +kernel
theorem dX5_worthAtOnce_30 : decode cX5_worthAtOnce 30 = .ok (.aload_n 0, 1) := by decide +kernel
theorem dX5_worthAtOnce_31 : decode cX5_worthAtOnce 31 = .ok (.getfield 22, 3) := by decide +kernel
theorem dX5_worthAtOnce_34 : decode cX5_worthAtOnce 34 = .ok (.lload_n 1, 1) := by decide +kernel
theorem dX5_worthAtOnce_35 : decode cX5_worthAtOnce 35 = .ok (.invokestatic 176, 3) := by decide +kernel
theorem dX5_worthAtOnce_38 : decode cX5_worthAtOnce 38 = .ok (.lload_n 3, 1) := by decide +kernel
theorem dX5_worthAtOnce_39 : decode cX5_worthAtOnce 39 = .ok (.invokestatic 176, 3) := by decide +kernel
theorem dX5_worthAtOnce_42 : decode cX5_worthAtOnce 42 = .ok (.bipush 40, 2) := by decide +kernel
theorem dX5_worthAtOnce_44 : decode cX5_worthAtOnce 44 = .ok (.invokevirtual 125, 3) := by decide +kernel
theorem dX5_worthAtOnce_47 : decode cX5_worthAtOnce 47 = .ok (.ireturn, 1) := by decide +kernel
theorem dX5_worthAtOnce_48 : decode cX5_worthAtOnce 48 = .ok (.ldc 179, 2) := by decide +kernel
theorem dX5_worthAtOnce_50 : decode cX5_worthAtOnce 50 = .ok (.ldc 180, 2) := by decide +kernel
theorem dX5_worthAtOnce_52 : decode cX5_worthAtOnce 52 = .ok (.iload 5, 2) := by decide +kernel
theorem dX5_worthAtOnce_54 : decode cX5_worthAtOnce 54 = .ok (.imul, 1) := by decide +kernel
theorem dX5_worthAtOnce_55 : decode cX5_worthAtOnce 55 = .ok (.iadd, 1) := by decide +kernel
theorem dX5_worthAtOnce_56 : decode cX5_worthAtOnce 56 = .ok (.iconst 1, 1) := by decide +kernel
theorem dX5_worthAtOnce_57 : decode cX5_worthAtOnce 57 = .ok (.invokestatic 171, 3) := by decide +kernel
theorem dX5_worthAtOnce_60 : decode cX5_worthAtOnce 60 = .ok (.ldc 181, 2) := by decide +kernel
theorem dX5_worthAtOnce_62 : decode cX5_worthAtOnce 62 = .ok (.invokestatic 182, 3) := by decide +kernel
theorem dX5_worthAtOnce_65 : decode cX5_worthAtOnce 65 = .ok (.ireturn, 1) := by decide +kernel
theorem dJ9_max_7cf53_0 : decode cJ9_max_7cf53 0 = .ok (.iload_n 0, 1) := by decide +kernel
theorem dJ9_max_7cf53_1 : decode cJ9_max_7cf53 1 = .ok (.iload_n 1, 1) := by decide +kernel
theorem dJ9_max_7cf53_2 : decode cJ9_max_7cf53 2 = .ok (.if_icmp .lt 7, 3) := by decide +kernel
theorem dJ9_max_7cf53_5 : decode cJ9_max_7cf53 5 = .ok (.iload_n 0, 1) := by decide +kernel
theorem dJ9_max_7cf53_6 : decode cJ9_max_7cf53 6 = .ok (.goto 4, 3) := by decide +kernel
theorem dJ9_max_7cf53_9 : decode cJ9_max_7cf53 9 = .ok (.iload_n 1, 1) := by decide +kernel
theorem dJ9_max_7cf53_10 : decode cJ9_max_7cf53 10 = .ok (.ireturn, 1) := by decide +kernel
theorem dJ9_min_7cf53_0 : decode cJ9_min_7cf53 0 = .ok (.iload_n 0, 1) := by decide +kernel
theorem dJ9_min_7cf53_1 : decode cJ9_min_7cf53 1 = .ok (.iload_n 1, 1) := by decide +kernel
theorem dJ9_min_7cf53_2 : decode cJ9_min_7cf53 2 = .ok (.if_icmp .gt 7, 3) := by decide +kernel
theorem dJ9_min_7cf53_5 : decode cJ9_min_7cf53 5 = .ok (.iload_n 0, 1) := by decide +kernel
theorem dJ9_min_7cf53_6 : decode cJ9_min_7cf53 6 = .ok (.goto 4, 3) := by decide +kernel
theorem dJ9_min_7cf53_9 : decode cJ9_min_7cf53 9 = .ok (.iload_n 1, 1) := by decide +kernel
theorem dJ9_min_7cf53_10 : decode cJ9_min_7cf53 10 = .ok (.ireturn, 1) := by decide +kernel
end
section
/-! Our own rows: shorter forms of the kit's rows, worlds by places, calls that only read. -/
/-- a truth as an int -/
def bI (b : Bool) : Int32 := if b then 1 else 0
theorem bI_0 {b : Bool} : bI b = 0 ↔ b = false := by cases b <;> decide
theorem bI_1 {b : Bool} : ¬ bI b = 0 ↔ b = true := by cases b <;> decide
theorem bI_nar (b : Bool) : narrow .boolean (.int (bI b)) = .int (bI b) := by cases b <;> rfl
theorem bI_t {b : Bool} (h : b = true) : (1 : Int32) = bI b := by rw [h]; rfl
theorem bI_f {b : Bool} (h : b = false) : (0 : Int32) = bI b := by rw [h]; rfl
/-- addresses: apart, of a kind -/
def zD (A : Nat → Prop) (al : List Nat) : Prop := al.Nodup ∧ ∀ a ∈ al, A a
def zA (al : List Nat) : Nat → Prop := fun q => q ∈ al
theorem zD.va {A : Nat → Prop} {ws : va_W} {al : List Nat} (h : zD A al) (e : ws.map Prod.fst = al) : va_D A ws := by
  subst e
  refine ⟨fun i j p q hi hj e => ?_, fun k q hk => h.2 _ (List.mem_map_of_mem (List.mem_of_getElem? hk))⟩
  have h1 : (ws.map Prod.fst)[i]? = some p.1 := by rw [List.getElem?_map, hi]; rfl
  have h2 : (ws.map Prod.fst)[j]? = some q.1 := by rw [List.getElem?_map, hj]; rfl
  have hil : i < (ws.map Prod.fst).length := (List.getElem?_eq_some_iff.mp h1).1
  exact (List.getElem?_inj hil h.1).mp (by rw [h1, h2, e])
/-- a world with cells put in at places -/
def zset : va_W → List Nat → va_W → va_W
  | ws, i :: is, e :: es => zset (ws.set i e) is es
  | ws, _, _ => ws
theorem zset_get : ∀ (is : List Nat) (es ws : va_W) (k : Nat) (q : Nat × va_E), is.length = es.length → (zset ws is es)[k]? = some q → q ∈ es ∨ (ws[k]? = some q ∧ k ∉ is) := by
  intro is
  induction is with
  | nil =>
    intro es ws k q hl h
    cases es with
    | nil => exact Or.inr ⟨h, by simp⟩
    | cons e es => simp at hl
  | cons i is ih =>
    intro es ws k q hl h
    cases es with
    | nil => simp at hl
    | cons e es =>
      rcases ih es (ws.set i e) k q (by simpa using hl) h with h1 | ⟨h1, h2⟩
      · exact Or.inl (List.mem_cons_of_mem _ h1)
      · by_cases hik : i = k
        · subst hik
          rw [List.getElem?_set] at h1
          simp only [if_true] at h1
          split at h1
          · cases h1
            exact Or.inl List.mem_cons_self
          · cases h1
        · rw [List.getElem?_set, if_neg hik] at h1
          exact Or.inr ⟨h1, by simp only [List.mem_cons, not_or]; exact ⟨fun e => hik e.symm, h2⟩⟩
theorem zP_set {D : va_G} {cl : List vw_C} {A : Nat → Prop} {ws w1 : va_W} {H H1 : Heap} {al : List Nat} (isC : List Nat) (hP : va_P D cl ws H) (hDD : zD A (ws.map Prod.fst)) (hal : isC.map (fun i => (ws[i]?).map Prod.fst) = al.map some) (hw : w1.map Prod.fst = al)
    (hk : ∀ q : Nat, q < H.size → ¬ zA al q → H1[q]? = H[q]?) (hP1 : va_P D cl w1 H1) : va_P D cl (zset ws isC w1) H1 := by
  intro k q hq
  have hlen : isC.length = w1.length := by
    have h1 := congrArg List.length hal
    have h2 := congrArg List.length hw
    simp only [List.length_map] at h1 h2
    omega
  rcases zset_get isC w1 ws k q hlen hq with h | ⟨h, hn⟩
  · obtain ⟨j, hj⟩ := List.getElem?_of_mem h
    exact hP1 j q hj
  · refine (hP k q h).kept (hk q.1 (hP k q h).lt (fun hm => hn ?_))
    have hm2 : some q.1 ∈ al.map some := List.mem_map_of_mem hm
    rw [← hal] at hm2
    obtain ⟨i, hi, he⟩ := List.mem_map.mp hm2
    have hD := hDD.va rfl
    cases hwi : ws[i]? with
    | none => rw [hwi] at he; cases he
    | some x =>
      rw [hwi] at he
      have e1 : x.1 = q.1 := Option.some.inj he
      have := hD.1 i k x q hwi h e1
      rw [← this]; exact hi
/-- a fact of a state that the tables and the heap alone decide -/
def zB (X : State → Prop) : Prop := ∀ U V : State, U.vm.Alike V.vm → V.heap = U.heap → X U → X V
theorem zB_T : zB (fun _ => True) := fun _ _ _ _ h => h
/-- a start: the arguments, a world, the tables, a fact -/
def zPc (av : List Value) (D : va_G) (cl : List vw_C) (tys : List (ClassId × FieldType)) (w : va_W) (X : State → Prop) : Array Value → State → Prop := va_Pc av (fun U => va_P D cl w U.heap ∧ va_K D cl tys U ∧ X U)
theorem zPc_bl {av : List Value} {D : va_G} {cl : List vw_C} {tys : List (ClassId × FieldType)} {w : va_W} {X : State → Prop} (hX : zB X) : FrameBlind (zPc av D cl tys w X) := fun a U g mk q => ⟨q.1, q.2.1, va_K.moved (u := U) (U := U.calling g mk a) (Vm.Alike.refl U.vm) q.2.2.1, hX U (U.calling g mk a) (Vm.Alike.refl U.vm) rfl q.2.2.2⟩
theorem zPc_S {s : State} {H : Heap} {As : List Value} {D : va_G} {cl : List vw_C} {tys : List (ClassId × FieldType)} {ws w : va_W} {X : State → Prop} (hX : zB X) (hP : va_P D cl ws H) (hK : va_K D cl tys s) (is : List Nat) (hs : is.filterMap (fun i => ws[i]?) = w) (hXs : ∀ U : State, U.heap = H → s.vm.Alike U.vm → X U) : PreS s H (zPc As D cl tys w X) As :=
  ⟨zPc_bl hX, fun U hU hW => ⟨rfl, by rw [hU]; exact hP.sub is hs, va_K.moved hW.alike hK, hXs U hU hW.alike⟩⟩
theorem zPc_V {s : State} {H : Heap} {b : Nat} {As : List Value} {D : va_G} {cl : List vw_C} {tys : List (ClassId × FieldType)} {ws w : va_W} {X : State → Prop} {q : vw_C} {ci q0 : Nat} {fs : List Value} (hX : zB X) (hP : va_P D cl ws H) (hK : va_K D cl tys s) (hc : cl[ci]? = some q) (he : ws[q0]? = some (b, .inr (ci, fs))) (is : List Nat) (hs : is.filterMap (fun i => ws[i]?) = w) (hXs : ∀ U : State, U.heap = H → s.vm.Alike U.vm → X U) : PreV s H q.1 b (zPc (.ref b :: As) D cl tys w X) As :=
  ⟨zPc_bl hX, va_recv hK hP hc he, fun U hU hW => ⟨rfl, by rw [hU]; exact hP.sub is hs, va_K.moved hW.alike hK, hXs U hU hW.alike⟩⟩
/-- a start of a method that computes on numbers alone -/
theorem zPu {s : State} {H : Heap} {As : List Value} : PreS s H (va_Pc As (fun _ => True)) As := ⟨fun a U g mk q => q, fun U hU hW => ⟨rfl, trivial⟩⟩
/-- nothing may be changed -/
abbrev zF : Nat → Prop := fun _ => False
section ZZ
variable {p : Program} {l : Launch} {e : Env} {R : Room} {s : State} {m : MethodId} {args : Array Value} {below : List Frame} {meth : Method} {c : Code} {H : Heap} {locs : List Loc} {cells slots : Nat} {Q : State → Prop}
variable {cc : ByteArray} {pc : Nat} {ls : Array Slot} {rest st0 : List Value} {D : va_G} {cl : List vw_C} {A A0 : Nat → Prop} {a : Nat} {tys : List (ClassId × FieldType)} {ws : va_W} {H0 : Heap} {av : Array Value}
theorem zz_i {x y : Int32} (h : x = y) (k : W p l e R s m args below meth c H locs cells slots Q (F0 m pc ls (.int y :: rest))) : W p l e R s m args below meth c H locs cells slots Q (F0 m pc ls (.int x :: rest)) := by rw [h]; exact k
theorem zz_l {x y : Int64} (h : x = y) (k : W p l e R s m args below meth c H locs cells slots Q (F0 m pc ls (.long y :: rest))) : W p l e R s m args below meth c H locs cells slots Q (F0 m pc ls (.long x :: rest)) := by rw [h]; exact k
theorem zz_r {x y : Nat} (h : x = y) (k : W p l e R s m args below meth c H locs cells slots Q (F0 m pc ls (.ref y :: rest))) : W p l e R s m args below meth c H locs cells slots Q (F0 m pc ls (.ref x :: rest)) := by rw [h]; exact k
/-- calls that only read -/
theorem zro_i {val : Int32} (hr : va_Run p l e R s m args below meth c H locs cells slots 0 0 (F0 m pc ls st0) rest (va_Qi (fun (r : Int32) (_ : Unit) => r = val) (fun _ _ => True) zF av) zF) (hP : va_P D cl ws H) (hS : va_S A0 H0 H locs)
    (kk : ∀ (H1 : Heap) (locs1 : List Loc), va_P D cl ws H1 → va_S A0 H0 H1 locs1 → W p l e R s m args below meth c H1 locs1 cells slots Q (F0 m (pc + 3) ls (.int val :: rest))) : W p l e R s m args below meth c H locs cells slots Q (F0 m pc ls st0) :=
  va_calli hr hS (fun _ _ h => h.elim) (fun _ h => h.elim) (fun r u t H1 locs1 ht hvm hw hB hz1 hk1 hS1 => by
    have hw : r = val := hw
    subst hw
    exact kk H1 locs1 (hP.kept (fun k q hk => hk1 q.1 (hP k q hk).lt (fun h => h))) hS1)
theorem zro_l {val : Int64} (hr : va_Run p l e R s m args below meth c H locs cells slots 0 0 (F0 m pc ls st0) rest (va_Ql (fun (r : Int64) (_ : Unit) => r = val) (fun _ _ => True) zF av) zF) (hP : va_P D cl ws H) (hS : va_S A0 H0 H locs)
    (kk : ∀ (H1 : Heap) (locs1 : List Loc), va_P D cl ws H1 → va_S A0 H0 H1 locs1 → W p l e R s m args below meth c H1 locs1 cells slots Q (F0 m (pc + 3) ls (.long val :: rest))) : W p l e R s m args below meth c H locs cells slots Q (F0 m pc ls st0) :=
  va_calll hr hS (fun _ _ h => h.elim) (fun _ h => h.elim) (fun r u t H1 locs1 ht hvm hw hB hz1 hk1 hS1 => by
    have hw : r = val := hw
    subst hw
    exact kk H1 locs1 (hP.kept (fun k q hk => hk1 q.1 (hP k q hk).lt (fun h => h))) hS1)
theorem zro_r {val : Nat} (hr : va_Run p l e R s m args below meth c H locs cells slots 0 0 (F0 m pc ls st0) rest (va_Qr (fun (_ : Unit) => True) (fun _ (r : Nat) _ => r = val) zF av) zF) (hP : va_P D cl ws H) (hS : va_S A0 H0 H locs)
    (kk : ∀ (H1 : Heap) (locs1 : List Loc), va_P D cl ws H1 → va_S A0 H0 H1 locs1 → W p l e R s m args below meth c H1 locs1 cells slots Q (F0 m (pc + 3) ls (.ref val :: rest))) : W p l e R s m args below meth c H locs cells slots Q (F0 m pc ls st0) :=
  va_callr hr hS (fun _ _ h => h.elim) (fun _ h => h.elim) (fun u r t H1 locs1 ht hvm hw hB hz1 hk1 hS1 => by
    have hB : r = val := hB
    subst hB
    exact kk H1 locs1 (hP.kept (fun k q hk => hk1 q.1 (hP k q hk).lt (fun h => h))) hS1)
theorem zA_sub {isC al : List Nat} (hDD : zD A0 (ws.map Prod.fst)) (hal : isC.map (fun i => (ws[i]?).map Prod.fst) = al.map some) : ∀ q, zA al q → A0 q := by
  intro q hm
  have hm2 : some q ∈ al.map some := List.mem_map_of_mem hm
  rw [← hal] at hm2
  obtain ⟨i, hi, he⟩ := List.mem_map.mp hm2
  cases hwi : ws[i]? with
  | none => rw [hwi] at he; cases he
  | some x =>
    rw [hwi] at he
    have e1 : x.1 = q := Option.some.inj he
    exact hDD.2 q (e1 ▸ List.mem_map_of_mem (List.mem_of_getElem? hwi))
/-- calls that write in their own world -/
theorem zrw_i {σ : Type} {post : Int32 → σ → Prop} {w1 : σ → va_W} {al : List Nat} (hr : va_Run p l e R s m args below meth c H locs cells slots 0 0 (F0 m pc ls st0) rest (va_Qi post (fun u t => va_P D cl (w1 u) t.heap) (zA al) av) (zA al)) (hP : va_P D cl ws H) (hDD : zD A0 (ws.map Prod.fst)) (hS : va_S A0 H0 H locs) (isC : List Nat) (hal : isC.map (fun i => (ws[i]?).map Prod.fst) = al.map some) (hw1 : ∀ u, (w1 u).map Prod.fst = al)
    (kk : ∀ (r : Int32) (u : σ) (H1 : Heap) (locs1 : List Loc), post r u → va_P D cl (zset ws isC (w1 u)) H1 → va_S A0 H0 H1 locs1 → W p l e R s m args below meth c H1 locs1 cells slots Q (F0 m (pc + 3) ls (.int r :: rest))) : W p l e R s m args below meth c H locs cells slots Q (F0 m pc ls st0) :=
  va_calli hr hS (fun q _ h => zA_sub hDD hal q h) (zA_sub hDD hal) (fun r u t H1 locs1 ht hvm hw hB hz1 hk1 hS1 => kk r u H1 locs1 hw (zP_set isC hP hDD hal (hw1 u) hk1 (by rw [← ht]; exact hB)) hS1)
theorem zrw_v {σ : Type} {post : σ → Prop} {w1 : σ → va_W} {al : List Nat} (hr : va_Run p l e R s m args below meth c H locs cells slots 0 0 (F0 m pc ls st0) rest (va_Qv post (fun u t => va_P D cl (w1 u) t.heap) (zA al) av) (zA al)) (hP : va_P D cl ws H) (hDD : zD A0 (ws.map Prod.fst)) (hS : va_S A0 H0 H locs) (isC : List Nat) (hal : isC.map (fun i => (ws[i]?).map Prod.fst) = al.map some) (hw1 : ∀ u, (w1 u).map Prod.fst = al)
    (kk : ∀ (u : σ) (H1 : Heap) (locs1 : List Loc), post u → va_P D cl (zset ws isC (w1 u)) H1 → va_S A0 H0 H1 locs1 → W p l e R s m args below meth c H1 locs1 cells slots Q (F0 m (pc + 3) ls rest)) : W p l e R s m args below meth c H locs cells slots Q (F0 m pc ls st0) :=
  va_callv hr hS (fun q _ h => zA_sub hDD hal q h) (zA_sub hDD hal) (fun u t H1 locs1 ht hvm hw hB hz1 hk1 hS1 => kk u H1 locs1 hw (zP_set isC hP hDD hal (hw1 u) hk1 (by rw [← ht]; exact hB)) hS1)
/-- arrays by a natural index -/
theorem zi_iald (hexec : p.tables.exec = Jvm.exec) (hb : c.code = cc) (hK : va_K D cl tys s) (hP : va_P D cl ws H) (q0 t0 : Nat) {cA : ClassId} {n : Nat} {f : Nat → Int32} (ha : ws[q0]? = some (a, .inl (cA, n, .inl f))) (ht : tys[t0]? = some (cA, .int)) {i : Int32} {j : Nat} (hi : i = nI j) (hj : j < n) (hn : n < 2 ^ 31) (hdg : decode cc pc = .ok (.iaload, 1))
    (kk : W p l e R s m args below meth c H locs cells slots Q (F0 m (pc + 1) ls (.int (f j) :: rest))) : W p l e R s m args below meth c H locs cells slots Q (F0 m pc ls (.int i :: .ref a :: rest)) := by
  subst hi
  refine va_iald hexec hb hK hP q0 t0 ha ht (vp_in_nI hj hn) hdg ?_
  rw [nI_clamp (by omega)]
  exact kk
theorem zi_lald (hexec : p.tables.exec = Jvm.exec) (hb : c.code = cc) (hK : va_K D cl tys s) (hP : va_P D cl ws H) (q0 t0 : Nat) {cA : ClassId} {n : Nat} {f : Nat → Int64} (ha : ws[q0]? = some (a, .inl (cA, n, .inr (.inl f)))) (ht : tys[t0]? = some (cA, .long)) {i : Int32} {j : Nat} (hi : i = nI j) (hj : j < n) (hn : n < 2 ^ 31) (hdg : decode cc pc = .ok (.laload, 1))
    (kk : W p l e R s m args below meth c H locs cells slots Q (F0 m (pc + 1) ls (.long (f j) :: rest))) : W p l e R s m args below meth c H locs cells slots Q (F0 m pc ls (.int i :: .ref a :: rest)) := by
  subst hi
  refine va_lald hexec hb hK hP q0 t0 ha ht (vp_in_nI hj hn) hdg ?_
  rw [nI_clamp (by omega)]
  exact kk
theorem zi_iast (hexec : p.tables.exec = Jvm.exec) (hb : c.code = cc) (hK : va_K D cl tys s) (hP : va_P D cl ws H) (hDD : zD A (ws.map Prod.fst)) (hS : va_S A H0 H locs) (q0 t0 : Nat) {cA : ClassId} {n : Nat} {f : Nat → Int32} (ha : ws[q0]? = some (a, .inl (cA, n, .inl f))) (ht : tys[t0]? = some (cA, .int)) {i : Int32} {x : Int32} {j : Nat} (hi : i = nI j) (hj : j < n) (hn : n < 2 ^ 31) (hdg : decode cc pc = .ok (.iastore, 1))
    (kk : ∀ (H1 : Heap) (locs1 : List Loc), va_P D cl (ws.set q0 (a, .inl (cA, n, .inl (upd f j x)))) H1 → va_S A H0 H1 locs1 → W p l e R s m args below meth c H1 locs1 cells slots Q (F0 m (pc + 1) ls rest)) : W p l e R s m args below meth c H locs cells slots Q (F0 m pc ls (.int x :: .int i :: .ref a :: rest)) := by
  subst hi
  refine va_iast hexec hb hK hP (hDD.va rfl) hS q0 t0 ha ht (vp_in_nI hj hn) hdg (fun H1 locs1 h1 _ h3 => ?_)
  rw [nI_clamp (by omega)] at h1
  exact kk H1 locs1 h1 h3
theorem zi_last (hexec : p.tables.exec = Jvm.exec) (hb : c.code = cc) (hK : va_K D cl tys s) (hP : va_P D cl ws H) (hDD : zD A (ws.map Prod.fst)) (hS : va_S A H0 H locs) (q0 t0 : Nat) {cA : ClassId} {n : Nat} {f : Nat → Int64} (ha : ws[q0]? = some (a, .inl (cA, n, .inr (.inl f)))) (ht : tys[t0]? = some (cA, .long)) {i : Int32} {x : Int64} {j : Nat} (hi : i = nI j) (hj : j < n) (hn : n < 2 ^ 31) (hdg : decode cc pc = .ok (.lastore, 1))
    (kk : ∀ (H1 : Heap) (locs1 : List Loc), va_P D cl (ws.set q0 (a, .inl (cA, n, .inr (.inl (vp_updL f j x))))) H1 → va_S A H0 H1 locs1 → W p l e R s m args below meth c H1 locs1 cells slots Q (F0 m (pc + 1) ls rest)) : W p l e R s m args below meth c H locs cells slots Q (F0 m pc ls (.long x :: .int i :: .ref a :: rest)) := by
  subst hi
  refine va_last hexec hb hK hP (hDD.va rfl) hS q0 t0 ha ht (vp_in_nI hj hn) hdg (fun H1 locs1 h1 _ h3 => ?_)
  rw [nI_clamp (by omega)] at h1
  exact kk H1 locs1 h1 h3
end ZZ
end
section
/-! ===== lN n to 2^64: shifts, and, or, masks, one bit ===== -/
theorem wb_tb (n : Nat) : (lN n).toBitVec = BitVec.ofNat 64 n := rfl
theorem wb_inj {a b : Int64} (h : a.toBitVec = b.toBitVec) : a = b := Int64.toBitVec_inj.mp h
theorem wb_tn {n : Nat} (h : n < 2 ^ 64) : (lN n).toBitVec.toNat = n := by rw [wb_tb, BitVec.toNat_ofNat, Nat.mod_eq_of_lt h]
theorem wb_of (x : Int64) : ∃ n, n < 2 ^ 64 ∧ x = lN n := ⟨x.toBitVec.toNat, x.toBitVec.isLt, wb_inj (by rw [wb_tb]; simp)⟩
theorem wb_of32 (x : Int32) : ∃ n, n < 2 ^ 32 ∧ x = nI n := ⟨x.toBitVec.toNat, x.toBitVec.isLt, Int32.toBitVec_inj.mp (by show _ = BitVec.ofNat 32 _; simp)⟩
theorem wb_c : ∀ k, k < 64 → ((nI k).toInt64 &&& 63) = lN k := by decide +kernel
theorem wb_cu : ∀ k, k < 64 → ((nI k).toInt64.toUInt64 &&& Int64.toUInt64 63) = UInt64.ofNat k := by decide +kernel
theorem wb_sm : ∀ k, k < 64 → (BitVec.ofNat 64 k).smod 64 = BitVec.ofNat 64 k := by decide +kernel
theorem wb_pw {a b : Nat} (h : a ≤ b) : 2 ^ b = 2 ^ a * 2 ^ (b - a) := by rw [← Nat.pow_add]; congr 1; omega
theorem wb_lt2 {a b : Nat} (h : a < b) : 2 ^ a < 2 ^ b := Nat.pow_lt_pow_right (by decide) h
theorem wb_mod (n : Nat) : lN n = lN (n % 2 ^ 64) := wb_inj (by rw [wb_tb, wb_tb]; apply BitVec.eq_of_toNat_eq; rw [BitVec.toNat_ofNat, BitVec.toNat_ofNat, Nat.mod_mod])
theorem wb_shr {n k : Nat} (hn : n < 2 ^ 64) (hk : k < 64) : ((lN n).toUInt64 >>> ((nI k).toInt64.toUInt64 &&& Int64.toUInt64 63)).toInt64 = lN (n / 2 ^ k) := by
  rw [wb_cu k hk]
  apply wb_inj
  apply BitVec.eq_of_toNat_eq
  show ((lN n).toUInt64 >>> UInt64.ofNat k).toNat = (BitVec.ofNat 64 _).toNat
  have h1 : (UInt64.ofNat k).toNat = k := by
    show (BitVec.ofNat 64 k).toNat = k
    rw [BitVec.toNat_ofNat, Nat.mod_eq_of_lt (by omega)]
  have h2 : (lN n).toUInt64.toNat = n := wb_tn hn
  rw [UInt64.toNat_shiftRight, h1, h2, Nat.mod_eq_of_lt hk, Nat.shiftRight_eq_div_pow, BitVec.toNat_ofNat, Nat.mod_eq_of_lt (Nat.lt_of_le_of_lt (Nat.div_le_self _ _) hn)]
theorem wb_shl (n : Nat) {k : Nat} (hk : k < 64) : lN n <<< ((nI k).toInt64 &&& 63) = lN (n * 2 ^ k) := by
  rw [wb_c k hk]
  apply wb_inj
  rw [Int64.toBitVec_shiftLeft, wb_tb, wb_tb, wb_tb, wb_sm k hk]
  apply BitVec.eq_of_toNat_eq
  rw [BitVec.shiftLeft_eq', BitVec.toNat_shiftLeft, BitVec.toNat_ofNat, BitVec.toNat_ofNat, BitVec.toNat_ofNat, Nat.mod_eq_of_lt (show k < 2 ^ 64 by omega), Nat.shiftLeft_eq, Nat.mul_mod, Nat.mod_mod, ← Nat.mul_mod]
theorem wb_and {a b : Nat} (ha : a < 2 ^ 64) (hb : b < 2 ^ 64) : lN a &&& lN b = lN (a &&& b) := by
  apply wb_inj
  rw [Int64.toBitVec_and, wb_tb, wb_tb, wb_tb]
  apply BitVec.eq_of_toNat_eq
  rw [BitVec.toNat_and, BitVec.toNat_ofNat, BitVec.toNat_ofNat, BitVec.toNat_ofNat, Nat.mod_eq_of_lt ha, Nat.mod_eq_of_lt hb, Nat.mod_eq_of_lt (Nat.and_lt_two_pow _ hb)]
theorem wb_or {a b : Nat} (ha : a < 2 ^ 64) (hb : b < 2 ^ 64) : lN a ||| lN b = lN (a ||| b) := by
  apply wb_inj
  rw [Int64.toBitVec_or, wb_tb, wb_tb, wb_tb]
  apply BitVec.eq_of_toNat_eq
  rw [BitVec.toNat_or, BitVec.toNat_ofNat, BitVec.toNat_ofNat, BitVec.toNat_ofNat, Nat.mod_eq_of_lt ha, Nat.mod_eq_of_lt hb, Nat.mod_eq_of_lt (Nat.or_lt_two_pow ha hb)]
theorem wb_mask {n k : Nat} (hn : n < 2 ^ 64) (hk : k < 64) : lN n &&& lN (2 ^ k - 1) = lN (n % 2 ^ k) := by
  rw [wb_and hn (by have := wb_lt2 hk; omega), Nat.and_two_pow_sub_one_eq_mod]
theorem wb_a1 {n : Nat} (hn : n < 2 ^ 64) : lN n &&& 1 = lN (n % 2) := wb_mask (k := 1) hn (by decide)
theorem wb_bit {n k : Nat} (hn : n < 2 ^ 64) (hk : k < 64) : ((lN n).toUInt64 >>> ((nI k).toInt64.toUInt64 &&& Int64.toUInt64 63)).toInt64 &&& 1 = lN (n / 2 ^ k % 2) := by
  rw [wb_shr hn hk, wb_a1 (Nat.lt_of_le_of_lt (Nat.div_le_self _ _) hn)]
theorem wb_xor {q k : Nat} (hk : k < 63) (h : 2 ^ k ≤ q) (h2 : q < 2 ^ (k + 1)) : lN q ^^^ lN (2 ^ k) = lN (q - 2 ^ k) := by
  obtain ⟨r, rfl⟩ : ∃ r, q = 2 ^ k + r := ⟨q - 2 ^ k, by omega⟩
  have hr : r < 2 ^ k := by rw [Nat.pow_succ] at h2; omega
  have hx : (2 ^ k + r) ^^^ 2 ^ k = r := by
    apply Nat.eq_of_testBit_eq
    intro i
    rw [Nat.testBit_xor, Nat.testBit_two_pow]
    rcases Nat.lt_trichotomy i k with h | h | h
    · rw [Nat.testBit_two_pow_add_gt h]
      simp [show ¬ k = i by omega]
    · subst h
      rw [Nat.testBit_two_pow_add_eq]
      simp
    · have a1 : 2 ^ (k + 1) ≤ 2 ^ i := Nat.pow_le_pow_right (by decide) h
      rw [Nat.testBit_lt_two_pow (show 2 ^ k + r < 2 ^ i by omega), Nat.testBit_lt_two_pow (show r < 2 ^ i by omega)]
      simp [show ¬ k = i by omega]
  have b1 := wb_lt2 (show k + 1 < 64 by omega)
  have b2 := wb_lt2 (show k < 64 by omega)
  apply wb_inj
  rw [Int64.toBitVec_xor, wb_tb, wb_tb, wb_tb]
  apply BitVec.eq_of_toNat_eq
  rw [BitVec.toNat_xor, BitVec.toNat_ofNat, BitVec.toNat_ofNat, BitVec.toNat_ofNat, Nat.mod_eq_of_lt (by omega : 2 ^ k + r < 2 ^ 64), Nat.mod_eq_of_lt b2, hx, Nat.add_sub_cancel_left, Nat.mod_eq_of_lt (by omega)]
/-! two rows of NUMBERS.to-paste -/
theorem fa_and (a b : Nat) : nI a &&& nI b = nI (a &&& b) := by
  apply Int32.toBitVec_inj.1
  show BitVec.ofNat 32 a &&& BitVec.ofNat 32 b = BitVec.ofNat 32 (a &&& b)
  apply BitVec.eq_of_getLsbD_eq
  intro i hi
  simp [hi]
theorem fa_mask (n k : Nat) : nI n &&& nI (2 ^ k - 1) = nI (n % 2 ^ k) := by rw [fa_and, Nat.and_two_pow_sub_one_eq_mod]
/-! The game in numbers: a side's pieces are the hexadecimal digits of a number, place by place. -/
def dg (n p : Nat) : Nat := n / 16 ^ p % 16
theorem dg_lt (n p : Nat) : dg n p < 16 := Nat.mod_lt _ (by decide)
theorem dg_big {n p : Nat} (hn : n < 2 ^ 63) (hp : 15 < p) : dg n p = 0 := by
  have h1 : (16 : Nat) ^ 16 ≤ 16 ^ p := Nat.pow_le_pow_right (by decide) hp
  have h2 : n < 16 ^ p := Nat.lt_of_lt_of_le (Nat.lt_of_lt_of_le hn (by decide)) h1
  rw [dg, Nat.div_eq_of_lt h2]
theorem zcnt (n p : Nat) : nI (n / 2 ^ (4 * p)) &&& 15 = nI (dg n p) := by
  rw [dg, show (16 : Nat) ^ p = 2 ^ (4 * p) by rw [Nat.pow_mul]]
  exact fa_mask _ 4
/-- the sum of the first k digits; the sum of the places -/
def dsum (n : Nat) : Nat → Nat
  | 0 => 0
  | k + 1 => dsum n k + dg n k
def psum (n : Nat) : Nat → Nat
  | 0 => 0
  | k + 1 => psum n k + k * dg n k
theorem psum_le (n : Nat) : ∀ k, k ≤ 16 → psum n k ≤ 256 * k := by
  intro k
  induction k with
  | zero => intro _; exact Nat.le_refl _
  | succ k ih =>
    intro hk
    have h1 := ih (by omega)
    have h2 := dg_lt n k
    have h3 : k * dg n k ≤ 15 * 15 := Nat.mul_le_mul (by omega) (by omega)
    show psum n k + k * dg n k ≤ _
    omega
/-- the first place that holds a piece, from p on, at most 15 -/
def zfs (n : Nat) : Nat → Nat → Nat
  | p, 0 => p
  | p, k + 1 => if dg n p = 0 then zfs n (p + 1) k else p
theorem zfs_z {n p : Nat} : zfs n p 0 = p := rfl
theorem zfs_s {n p k : Nat} : zfs n p (k + 1) = if dg n p = 0 then zfs n (p + 1) k else p := rfl
def zros (p : Nat) : Bool := p == 4 || p == 8 || p == 14
def zshr (p : Nat) : Bool := decide (5 ≤ p) && decide (p ≤ 12)
def zcen (p : Nat) (o t : Bool) : Bool := if 15 ≤ p then p == 15 else !o && !(t && p == 8)
def zcm (own other from_ m : Nat) : Bool := decide (0 < m) && decide (0 < dg own from_) && zcen (from_ + m) (decide (0 < dg own (from_ + m))) (decide (0 < dg other (from_ + m)))
def ztk (other p : Nat) : Bool := zshr p && decide (0 < dg other p)
def zsh (n a b : Nat) : Nat := n - 16 ^ a + 16 ^ b
def zhome (n : Nat) : Bool := n % 2 ^ 60 == 0
def ztm (m : Nat) : Nat := if m = 0 then 1 else if m = 1 then 4 else if m = 2 then 6 else if m = 3 then 4 else if m = 4 then 1 else 0
theorem lN_home {n : Nat} (hn : n < 2 ^ 63) : lN n &&& 1152921504606846975 = lN (n % 2 ^ 60) := wb_mask (k := 60) (by omega) (by decide)
theorem lN_pw {a : Nat} (ha : a ≤ 15) : (1 : Int64) <<< ((nI (4 * a)).toInt64 &&& 63) = lN (16 ^ a) := by
  rw [show (16 : Nat) ^ a = 1 * 2 ^ (4 * a) by rw [Nat.pow_mul, Nat.one_mul]]
  exact wb_shl 1 (k := 4 * a) (by omega)
theorem lN_sh {n a b : Nat} (h : 16 ^ a ≤ n) : lN n - lN (16 ^ a) + lN (16 ^ b) = lN (zsh n a b) := by
  rw [lN_sub h, lN_add]
  rfl
end
section
theorem zin_1 {v lo hi : Int32} (h2 : ¬ v < lo) (h7 : ¬ hi < v) : (decide (lo ≤ v) && decide (v ≤ hi)) = true := by
  rw [decide_eq_true (Int32.not_lt.mp h2), decide_eq_true (Int32.not_lt.mp h7)]; rfl
theorem zin_0a {v lo hi : Int32} (h2 : v < lo) : (decide (lo ≤ v) && decide (v ≤ hi)) = false := by
  rw [decide_eq_false (Int32.not_le.mpr h2)]; rfl
theorem zin_0b {v lo hi : Int32} (_ : ¬ v < lo) (h7 : hi < v) : (decide (lo ≤ v) && decide (v ≤ hi)) = false := by
  rw [decide_eq_false (p := v ≤ hi) (Int32.not_le.mpr h7), Bool.and_false]
/-- the marks that were told, or none -/
def zmk (mk : Int32) (mm : Nat) : Prop := mk = nI mm ∨ (mk = -1 ∧ mm = 0)
theorem zmk_le {mk : Int32} {mm : Nat} (h : zmk mk mm) (hm : mm ≤ 4) (c : mk ≤ 0) : mm = 0 := by
  rcases h with h | h
  · rw [h] at c
    have := (nI_leI (a := mm) (b := 0) (by omega) (by omega)).mp c
    omega
  · exact h.2
theorem zmk_gt {mk : Int32} {mm : Nat} (h : zmk mk mm) (c : ¬ mk ≤ 0) : 0 < mm := by
  rcases h with h | h
  · rcases Nat.eq_zero_or_pos mm with e | e
    · rw [h, e] at c; exact absurd (by decide) c
    · exact e
  · rw [h.1] at c; exact absurd (by decide) c
theorem zmk_eq {mk : Int32} {mm : Nat} (h : zmk mk mm) (c : 0 < mm) : mk = nI mm := by
  rcases h with h | h
  · exact h
  · omega
theorem zcm_c {own oth fr mm : Nat} {a b : Bool} (h0 : 0 < mm) (h1 : 0 < dg own fr) (ha : 0 < dg own (fr + mm) ↔ a = true) (hb : 0 < dg oth (fr + mm) ↔ b = true) : zcen (fr + mm) a b = zcm own oth fr mm := by
  have e1 : decide (0 < dg own (fr + mm)) = a := by cases a <;> simp_all
  have e2 : decide (0 < dg oth (fr + mm)) = b := by cases b <;> simp_all
  rw [zcm, e1, e2, decide_eq_true h0, decide_eq_true h1]
  rfl
abbrev zG0 : va_G := (fun _ => 0, fun _ _ => 0)
set_option maxHeartbeats 4000000 in
set_option maxRecDepth 100000 in
theorem c_X4_isRosette (l : Launch) (pl : Nat) (hp : pl < 1000)  : Met l yX4_isRosette wsX4_isRosette ({ frames := 0, cells := 0, slots := 0, locals := 0 }) (va_Pc [.int (nI pl)] (fun _ => True)) (va_Qi (fun (r : Int32) (_ : Unit) => r = bI (zros pl)) (fun _ _ => True) zF) 0 0 zF := by
  refine Met.ofW (cc := cX4_isRosette) (maxL := 1) (ret := (some .boolean)) (by decide) rfl ?_
  intro p e s m args below meth c s₁ B hml hv
  obtain ⟨rfl, -⟩ := hv
  have hx := B.exec
  have hb := B.bytes
  have hr := B.returns
  have hts := atoms_spec (ws := wsX4_isRosette) B.pre
  have hown : s.vm.findClass RX4 = some m.cls := findClass_of_methodNamed B.named
  have hlocks := B.notSynchronized
  have hl := lv_entry ([.int (nI pl)]) (n := 1) (Nat.le_of_ble_eq_true rfl)
  rw [lg_entry_eq]
  generalize (lg_sl ([.int (nI pl)]) ++ List.replicate (1 - (lg_sl ([.int (nI pl)])).length) Slot.unset).toArray = ls at hl ⊢
  have hl : lv_has ls 1 [(0, .int (nI pl))] := hl
  have hP : va_P zG0 [] [] s.heap := fun k q h => by simp at h
  have hS : va_S zF s.heap s.heap [] := va_S.rf
  refine lv_iload_n hx hb dX4_isRosette_0 rfl (lv_at hl 0 rfl) ?_
  refine lv_iconst (v := 4) hx hb dX4_isRosette_1 (by decide) ?_
  refine lv_icmp_eq (tgt := 17) hx hb dX4_isRosette_2 (by decide) (fun c_2 => ?_) (fun c_2 => ?_)
  · skip
    have c_2 : pl = 4 := (nI_eq (a := pl) (b := 4) (by omega) (by omega)).mp c_2
    refine lv_iconst (v := 1) hx hb dX4_isRosette_17 (by decide) ?_
    refine lv_goto (tgt := 22) hx hb dX4_isRosette_18 (by decide) ?_
    exact W.zret (v := 1) hx hb hr rfl (fun t ht hW => ⟨⟨_, (), rfl, (bI_t (by simp [zros, c_2] <;> omega)), trivial⟩, hS.F ht⟩) hS.2.2 dX4_isRosette_22
  · skip
    have c_2 : ¬ pl = 4 := fun h9 => c_2 ((nI_eq (a := pl) (b := 4) (by omega) (by omega)).mpr h9)
    refine lv_iload_n hx hb dX4_isRosette_5 rfl (lv_at hl 0 rfl) ?_
    refine lv_bipush (v := 8) hx hb dX4_isRosette_6 (by decide) ?_
    refine lv_icmp_eq (tgt := 17) hx hb dX4_isRosette_8 (by decide) (fun c_8 => ?_) (fun c_8 => ?_)
    · skip
      have c_8 : pl = 8 := (nI_eq (a := pl) (b := 8) (by omega) (by omega)).mp c_8
      refine lv_iconst (v := 1) hx hb dX4_isRosette_17 (by decide) ?_
      refine lv_goto (tgt := 22) hx hb dX4_isRosette_18 (by decide) ?_
      exact W.zret (v := 1) hx hb hr rfl (fun t ht hW => ⟨⟨_, (), rfl, (bI_t (by simp [zros, c_2, c_8] <;> omega)), trivial⟩, hS.F ht⟩) hS.2.2 dX4_isRosette_22
    · skip
      have c_8 : ¬ pl = 8 := fun h9 => c_8 ((nI_eq (a := pl) (b := 8) (by omega) (by omega)).mpr h9)
      refine lv_iload_n hx hb dX4_isRosette_11 rfl (lv_at hl 0 rfl) ?_
      refine lv_bipush (v := 14) hx hb dX4_isRosette_12 (by decide) ?_
      refine lv_icmp_ne (tgt := 21) hx hb dX4_isRosette_14 (by decide) (fun c_14 => ?_) (fun c_14 => ?_)
      · skip
        have c_14 : ¬ pl = 14 := fun h9 => c_14 ((nI_eq (a := pl) (b := 14) (by omega) (by omega)).mpr h9)
        refine lv_iconst (v := 0) hx hb dX4_isRosette_21 (by decide) ?_
        exact W.zret (v := 0) hx hb hr rfl (fun t ht hW => ⟨⟨_, (), rfl, (bI_f (by simp [zros, c_2, c_8, c_14] <;> omega)), trivial⟩, hS.F ht⟩) hS.2.2 dX4_isRosette_22
      · skip
        have c_14 : pl = 14 := (nI_eq (a := pl) (b := 14) (by omega) (by omega)).mp c_14
        refine lv_iconst (v := 1) hx hb dX4_isRosette_17 (by decide) ?_
        refine lv_goto (tgt := 22) hx hb dX4_isRosette_18 (by decide) ?_
        exact W.zret (v := 1) hx hb hr rfl (fun t ht hW => ⟨⟨_, (), rfl, (bI_t (by simp [zros, c_2, c_8, c_14] <;> omega)), trivial⟩, hS.F ht⟩) hS.2.2 dX4_isRosette_22

set_option maxHeartbeats 4000000 in
set_option maxRecDepth 100000 in
theorem c_X4_isShared (l : Launch) (pl : Nat) (hp : pl < 1000)  : Met l yX4_isShared wsX4_isShared ({ frames := 0, cells := 0, slots := 0, locals := 0 }) (va_Pc [.int (nI pl)] (fun _ => True)) (va_Qi (fun (r : Int32) (_ : Unit) => r = bI (zshr pl)) (fun _ _ => True) zF) 0 0 zF := by
  refine Met.ofW (cc := cX4_isShared) (maxL := 1) (ret := (some .boolean)) (by decide) rfl ?_
  intro p e s m args below meth c s₁ B hml hv
  obtain ⟨rfl, -⟩ := hv
  have hx := B.exec
  have hb := B.bytes
  have hr := B.returns
  have hts := atoms_spec (ws := wsX4_isShared) B.pre
  have hown : s.vm.findClass RX4 = some m.cls := findClass_of_methodNamed B.named
  have hlocks := B.notSynchronized
  have hl := lv_entry ([.int (nI pl)]) (n := 1) (Nat.le_of_ble_eq_true rfl)
  rw [lg_entry_eq]
  generalize (lg_sl ([.int (nI pl)]) ++ List.replicate (1 - (lg_sl ([.int (nI pl)])).length) Slot.unset).toArray = ls at hl ⊢
  have hl : lv_has ls 1 [(0, .int (nI pl))] := hl
  have hP : va_P zG0 [] [] s.heap := fun k q h => by simp at h
  have hS : va_S zF s.heap s.heap [] := va_S.rf
  refine lv_iload_n hx hb dX4_isShared_0 rfl (lv_at hl 0 rfl) ?_
  refine lv_iconst (v := 5) hx hb dX4_isShared_1 (by decide) ?_
  refine lv_icmp_lt (tgt := 15) hx hb dX4_isShared_2 (by decide) (fun c_2 => ?_) (fun c_2 => ?_)
  · skip
    have c_2 : pl < 5 := (nI_ltI (a := pl) (b := 5) (by omega) (by omega)).mp c_2
    refine lv_iconst (v := 0) hx hb dX4_isShared_15 (by decide) ?_
    exact W.zret (v := 0) hx hb hr rfl (fun t ht hW => ⟨⟨_, (), rfl, (bI_f (by simp [zshr, c_2] <;> omega)), trivial⟩, hS.F ht⟩) hS.2.2 dX4_isShared_16
  · skip
    have c_2 : ¬ pl < 5 := fun h9 => c_2 ((nI_ltI (a := pl) (b := 5) (by omega) (by omega)).mpr h9)
    refine lv_iload_n hx hb dX4_isShared_5 rfl (lv_at hl 0 rfl) ?_
    refine lv_bipush (v := 12) hx hb dX4_isShared_6 (by decide) ?_
    refine lv_icmp_gt (tgt := 15) hx hb dX4_isShared_8 (by decide) (fun c_8 => ?_) (fun c_8 => ?_)
    · skip
      have c_8 : 12 < pl := (nI_ltI (a := 12) (b := pl) (by omega) (by omega)).mp c_8
      refine lv_iconst (v := 0) hx hb dX4_isShared_15 (by decide) ?_
      exact W.zret (v := 0) hx hb hr rfl (fun t ht hW => ⟨⟨_, (), rfl, (bI_f (by simp [zshr, c_2, c_8] <;> omega)), trivial⟩, hS.F ht⟩) hS.2.2 dX4_isShared_16
    · skip
      have c_8 : ¬ 12 < pl := fun h9 => c_8 ((nI_ltI (a := 12) (b := pl) (by omega) (by omega)).mpr h9)
      refine lv_iconst (v := 1) hx hb dX4_isShared_11 (by decide) ?_
      refine lv_goto (tgt := 16) hx hb dX4_isShared_12 (by decide) ?_
      exact W.zret (v := 1) hx hb hr rfl (fun t ht hW => ⟨⟨_, (), rfl, (bI_t (by simp [zshr, c_2, c_8] <;> omega)), trivial⟩, hS.F ht⟩) hS.2.2 dX4_isShared_16

set_option maxHeartbeats 4000000 in
set_option maxRecDepth 100000 in
theorem c_X4_canEnter (l : Launch) (pl : Nat) (hp : pl < 1000) (ob tb : Bool)  : Met l yX4_canEnter wsX4_canEnter ({ frames := 0, cells := 0, slots := 0, locals := 0 }) (va_Pc [.int (nI pl), .int (bI ob), .int (bI tb)] (fun _ => True)) (va_Qi (fun (r : Int32) (_ : Unit) => r = bI (zcen pl ob tb)) (fun _ _ => True) zF) 0 0 zF := by
  refine Met.ofW (cc := cX4_canEnter) (maxL := 3) (ret := (some .boolean)) (by decide) rfl ?_
  intro p e s m args below meth c s₁ B hml hv
  obtain ⟨rfl, -⟩ := hv
  have hx := B.exec
  have hb := B.bytes
  have hr := B.returns
  have hts := atoms_spec (ws := wsX4_canEnter) B.pre
  have hown : s.vm.findClass RX4 = some m.cls := findClass_of_methodNamed B.named
  have hlocks := B.notSynchronized
  have hl := lv_entry ([.int (nI pl), .int (bI ob), .int (bI tb)]) (n := 3) (Nat.le_of_ble_eq_true rfl)
  rw [lg_entry_eq]
  generalize (lg_sl ([.int (nI pl), .int (bI ob), .int (bI tb)]) ++ List.replicate (3 - (lg_sl ([.int (nI pl), .int (bI ob), .int (bI tb)])).length) Slot.unset).toArray = ls at hl ⊢
  have hl : lv_has ls 3 [(0, .int (nI pl)), (1, .int (bI ob)), (2, .int (bI tb))] := hl
  have hP : va_P zG0 [] [] s.heap := fun k q h => by simp at h
  have hS : va_S zF s.heap s.heap [] := va_S.rf
  refine lv_iload_n hx hb dX4_canEnter_0 rfl (lv_at hl 0 rfl) ?_
  refine lv_bipush (v := 15) hx hb dX4_canEnter_1 (by decide) ?_
  refine lv_icmp_lt (tgt := 18) hx hb dX4_canEnter_3 (by decide) (fun c_3 => ?_) (fun c_3 => ?_)
  · skip
    have c_3 : pl < 15 := (nI_ltI (a := pl) (b := 15) (by omega) (by omega)).mp c_3
    refine lv_iload_n hx hb dX4_canEnter_18 rfl (lv_at hl 1 rfl) ?_
    refine lv_if_ne (tgt := 36) hx hb dX4_canEnter_19 (by decide) (fun c_19 => ?_) (fun c_19 => ?_)
    · skip
      have c_19 := bI_1.mp c_19
      refine lv_iconst (v := 0) hx hb dX4_canEnter_36 (by decide) ?_
      exact W.zret (v := 0) hx hb hr rfl (fun t ht hW => ⟨⟨_, (), rfl, (bI_f (by simp [zcen, c_3, c_19] <;> omega)), trivial⟩, hS.F ht⟩) hS.2.2 dX4_canEnter_37
    · skip
      have c_19 := bI_0.mp c_19
      refine lv_iload_n hx hb dX4_canEnter_22 rfl (lv_at hl 2 rfl) ?_
      refine lv_if_eq (tgt := 32) hx hb dX4_canEnter_23 (by decide) (fun c_23 => ?_) (fun c_23 => ?_)
      · skip
        have c_23 := bI_0.mp c_23
        refine lv_iconst (v := 1) hx hb dX4_canEnter_32 (by decide) ?_
        refine lv_goto (tgt := 37) hx hb dX4_canEnter_33 (by decide) ?_
        exact W.zret (v := 1) hx hb hr rfl (fun t ht hW => ⟨⟨_, (), rfl, (bI_t (by simp [zcen, c_3, c_19, c_23] <;> omega)), trivial⟩, hS.F ht⟩) hS.2.2 dX4_canEnter_37
      · skip
        have c_23 := bI_1.mp c_23
        refine lv_iload_n hx hb dX4_canEnter_26 rfl (lv_at hl 0 rfl) ?_
        refine lv_bipush (v := 8) hx hb dX4_canEnter_27 (by decide) ?_
        refine lv_icmp_eq (tgt := 36) hx hb dX4_canEnter_29 (by decide) (fun c_29 => ?_) (fun c_29 => ?_)
        · skip
          have c_29 : pl = 8 := (nI_eq (a := pl) (b := 8) (by omega) (by omega)).mp c_29
          refine lv_iconst (v := 0) hx hb dX4_canEnter_36 (by decide) ?_
          exact W.zret (v := 0) hx hb hr rfl (fun t ht hW => ⟨⟨_, (), rfl, (bI_f (by simp [zcen, c_3, c_19, c_23, c_29] <;> omega)), trivial⟩, hS.F ht⟩) hS.2.2 dX4_canEnter_37
        · skip
          have c_29 : ¬ pl = 8 := fun h9 => c_29 ((nI_eq (a := pl) (b := 8) (by omega) (by omega)).mpr h9)
          refine lv_iconst (v := 1) hx hb dX4_canEnter_32 (by decide) ?_
          refine lv_goto (tgt := 37) hx hb dX4_canEnter_33 (by decide) ?_
          exact W.zret (v := 1) hx hb hr rfl (fun t ht hW => ⟨⟨_, (), rfl, (bI_t (by simp [zcen, c_3, c_19, c_23, c_29] <;> omega)), trivial⟩, hS.F ht⟩) hS.2.2 dX4_canEnter_37
  · skip
    have c_3 : ¬ pl < 15 := fun h9 => c_3 ((nI_ltI (a := pl) (b := 15) (by omega) (by omega)).mpr h9)
    refine lv_iload_n hx hb dX4_canEnter_6 rfl (lv_at hl 0 rfl) ?_
    refine lv_bipush (v := 15) hx hb dX4_canEnter_7 (by decide) ?_
    refine lv_icmp_ne (tgt := 16) hx hb dX4_canEnter_9 (by decide) (fun c_9 => ?_) (fun c_9 => ?_)
    · skip
      have c_9 : ¬ pl = 15 := fun h9 => c_9 ((nI_eq (a := pl) (b := 15) (by omega) (by omega)).mpr h9)
      refine lv_iconst (v := 0) hx hb dX4_canEnter_16 (by decide) ?_
      exact W.zret (v := 0) hx hb hr rfl (fun t ht hW => ⟨⟨_, (), rfl, (bI_f (by simp [zcen, c_3, c_9] <;> omega)), trivial⟩, hS.F ht⟩) hS.2.2 dX4_canEnter_17
    · skip
      have c_9 : pl = 15 := (nI_eq (a := pl) (b := 15) (by omega) (by omega)).mp c_9
      refine lv_iconst (v := 1) hx hb dX4_canEnter_12 (by decide) ?_
      refine lv_goto (tgt := 17) hx hb dX4_canEnter_13 (by decide) ?_
      exact W.zret (v := 1) hx hb hr rfl (fun t ht hW => ⟨⟨_, (), rfl, (bI_t (by simp [zcen, c_3, c_9] <;> omega)), trivial⟩, hS.F ht⟩) hS.2.2 dX4_canEnter_17

set_option maxHeartbeats 4000000 in
set_option maxRecDepth 100000 in
theorem c_X2_allAtStart (l : Launch) (k : Nat) (hk : k < 1000)  : Met l yX2_allAtStart wsX2_allAtStart ({ frames := 0, cells := 0, slots := 0, locals := 0 }) (va_Pc [.int (nI k)] (fun _ => True)) (va_Ql (fun (r : Int64) (_ : Unit) => r = lN k) (fun _ _ => True) zF) 0 0 zF := by
  refine Met.ofW (cc := cX2_allAtStart) (maxL := 1) (ret := (some .long)) (by decide) rfl ?_
  intro p e s m args below meth c s₁ B hml hv
  obtain ⟨rfl, -⟩ := hv
  have hx := B.exec
  have hb := B.bytes
  have hr := B.returns
  have hts := atoms_spec (ws := wsX2_allAtStart) B.pre
  have hown : s.vm.findClass RX2 = some m.cls := findClass_of_methodNamed B.named
  have hlocks := B.notSynchronized
  have hl := lv_entry ([.int (nI k)]) (n := 1) (Nat.le_of_ble_eq_true rfl)
  rw [lg_entry_eq]
  generalize (lg_sl ([.int (nI k)]) ++ List.replicate (1 - (lg_sl ([.int (nI k)])).length) Slot.unset).toArray = ls at hl ⊢
  have hl : lv_has ls 1 [(0, .int (nI k))] := hl
  have hP : va_P zG0 [] [] s.heap := fun k q h => by simp at h
  have hS : va_S zF s.heap s.heap [] := va_S.rf
  refine lv_iload_n hx hb dX2_allAtStart_0 rfl (lv_at hl 0 rfl) ?_
  refine lv_i2l (v := (nI k : Int32).toInt64) hx hb dX2_allAtStart_1 rfl ?_
  exact W.lret (v := (nI k : Int32).toInt64) hx hb hr (fun t ht hW => ⟨⟨_, (), rfl, (nI_l (by omega)), trivial⟩, hS.F ht⟩) hS.2.2 dX2_allAtStart_2

set_option maxHeartbeats 4000000 in
set_option maxRecDepth 100000 in
theorem c_X2_countAt (l : Launch) (n : Nat) (hn : n < 2 ^ 63) (pl : Nat) (hp : pl < 1000)  : Met l yX2_countAt wsX2_countAt ({ frames := 0, cells := 0, slots := 0, locals := 0 }) (va_Pc [.long (lN n), .int (nI pl)] (fun _ => True)) (va_Qi (fun (r : Int32) (_ : Unit) => r = nI (dg n pl)) (fun _ _ => True) zF) 0 0 zF := by
  refine Met.ofW (cc := cX2_countAt) (maxL := 3) (ret := (some .int)) (by decide) rfl ?_
  intro p e s m args below meth c s₁ B hml hv
  obtain ⟨rfl, -⟩ := hv
  have hx := B.exec
  have hb := B.bytes
  have hr := B.returns
  have hts := atoms_spec (ws := wsX2_countAt) B.pre
  have hown : s.vm.findClass RX2 = some m.cls := findClass_of_methodNamed B.named
  have hlocks := B.notSynchronized
  have hl := lv_entry ([.long (lN n), .int (nI pl)]) (n := 3) (Nat.le_of_ble_eq_true rfl)
  rw [lg_entry_eq]
  generalize (lg_sl ([.long (lN n), .int (nI pl)]) ++ List.replicate (3 - (lg_sl ([.long (lN n), .int (nI pl)])).length) Slot.unset).toArray = ls at hl ⊢
  have hl : lv_has ls 3 [(0, .long (lN n)), (2, .int (nI pl))] := hl
  have hP : va_P zG0 [] [] s.heap := fun k q h => by simp at h
  have hS : va_S zF s.heap s.heap [] := va_S.rf
  refine lv_iload_n hx hb dX2_countAt_0 rfl (lv_at hl 1 rfl) ?_
  refine lv_if_lt (tgt := 10) hx hb dX2_countAt_1 (by decide) (fun c_1 => ?_) (fun c_1 => ?_)
  · skip
    have c_1 : pl < 0 := (nI_ltI (a := pl) (b := 0) (by omega) (by omega)).mp c_1
    refine lv_iconst (v := 0) hx hb dX2_countAt_10 (by decide) ?_
    refine lv_goto (tgt := 23) hx hb dX2_countAt_11 (by decide) ?_
    exact W.iret (v := 0) hx hb hr (fun t ht hW => ⟨⟨_, (), rfl, (by rw [dg_big hn (by omega)]; rfl), trivial⟩, hS.F ht⟩) hS.2.2 dX2_countAt_23
  · skip
    have c_1 : ¬ pl < 0 := fun h9 => c_1 ((nI_ltI (a := pl) (b := 0) (by omega) (by omega)).mpr h9)
    refine lv_iload_n hx hb dX2_countAt_4 rfl (lv_at hl 1 rfl) ?_
    refine lv_bipush (v := 15) hx hb dX2_countAt_5 (by decide) ?_
    refine lv_icmp_le (tgt := 14) hx hb dX2_countAt_7 (by decide) (fun c_7 => ?_) (fun c_7 => ?_)
    · skip
      have c_7 : pl ≤ 15 := (nI_leI (a := pl) (b := 15) (by omega) (by omega)).mp c_7
      refine lv_lload_n hx hb dX2_countAt_14 rfl (lv_at hl 0 rfl) ?_
      refine lv_iconst (v := 4) hx hb dX2_countAt_15 (by decide) ?_
      refine lv_iload_n hx hb dX2_countAt_16 rfl (lv_at hl 1 rfl) ?_
      refine lv_imul hx hb dX2_countAt_17 ?_
      refine zz_i (y := nI (4 * pl)) (pk_mul 4 pl) ?_
      refine lv_lushr (v := ((lN n).toUInt64 >>> ((nI (4 * pl) : Int32).toInt64.toUInt64 &&& Int64.toUInt64 63)).toInt64) hx hb dX2_countAt_18 rfl ?_
      refine zz_l (y := lN (n / 2 ^ (4 * pl))) (wb_shr (by omega) (by omega)) ?_
      refine lv_l2i (v := (lN (n / 2 ^ (4 * pl)) : Int64).toInt32) hx hb dX2_countAt_19 rfl ?_
      refine zz_i (y := nI (n / 2 ^ (4 * pl))) (lN_i _) ?_
      refine lv_bipush (v := 15) hx hb dX2_countAt_20 (by decide) ?_
      refine lv_iand hx hb dX2_countAt_22 ?_
      refine zz_i (y := nI (dg n pl)) (zcnt n pl) ?_
      exact W.iret (v := nI (dg n pl)) hx hb hr (fun t ht hW => ⟨⟨_, (), rfl, rfl, trivial⟩, hS.F ht⟩) hS.2.2 dX2_countAt_23
    · skip
      have c_7 : ¬ pl ≤ 15 := fun h9 => c_7 ((nI_leI (a := pl) (b := 15) (by omega) (by omega)).mpr h9)
      refine lv_iconst (v := 0) hx hb dX2_countAt_10 (by decide) ?_
      refine lv_goto (tgt := 23) hx hb dX2_countAt_11 (by decide) ?_
      exact W.iret (v := 0) hx hb hr (fun t ht hW => ⟨⟨_, (), rfl, (by rw [dg_big hn (by omega)]; rfl), trivial⟩, hS.F ht⟩) hS.2.2 dX2_countAt_23

set_option maxHeartbeats 4000000 in
set_option maxRecDepth 100000 in
theorem c_X2_shifted (l : Launch) (n : Nat) (hn : n < 2 ^ 63) (a b : Nat) (ha : a ≤ 15) (hb0 : b ≤ 15) (hs : 16 ^ a ≤ n)  : Met l yX2_shifted wsX2_shifted ({ frames := 0, cells := 0, slots := 0, locals := 0 }) (va_Pc [.long (lN n), .int (nI a), .int (nI b)] (fun _ => True)) (va_Ql (fun (r : Int64) (_ : Unit) => r = lN (zsh n a b)) (fun _ _ => True) zF) 0 0 zF := by
  refine Met.ofW (cc := cX2_shifted) (maxL := 4) (ret := (some .long)) (by decide) rfl ?_
  intro p e s m args below meth c s₁ B hml hv
  obtain ⟨rfl, -⟩ := hv
  have hx := B.exec
  have hb := B.bytes
  have hr := B.returns
  have hts := atoms_spec (ws := wsX2_shifted) B.pre
  have hown : s.vm.findClass RX2 = some m.cls := findClass_of_methodNamed B.named
  have hlocks := B.notSynchronized
  have hl := lv_entry ([.long (lN n), .int (nI a), .int (nI b)]) (n := 4) (Nat.le_of_ble_eq_true rfl)
  rw [lg_entry_eq]
  generalize (lg_sl ([.long (lN n), .int (nI a), .int (nI b)]) ++ List.replicate (4 - (lg_sl ([.long (lN n), .int (nI a), .int (nI b)])).length) Slot.unset).toArray = ls at hl ⊢
  have hl : lv_has ls 4 [(0, .long (lN n)), (2, .int (nI a)), (3, .int (nI b))] := hl
  have hP : va_P zG0 [] [] s.heap := fun k q h => by simp at h
  have hS : va_S zF s.heap s.heap [] := va_S.rf
  refine lv_lload_n hx hb dX2_shifted_0 rfl (lv_at hl 0 rfl) ?_
  refine lv_lconst (v := 1) hx hb dX2_shifted_1 (by decide) ?_
  refine lv_iconst (v := 4) hx hb dX2_shifted_2 (by decide) ?_
  refine lv_iload_n hx hb dX2_shifted_3 rfl (lv_at hl 1 rfl) ?_
  refine lv_imul hx hb dX2_shifted_4 ?_
  refine zz_i (y := nI (4 * a)) (pk_mul 4 a) ?_
  refine lv_lshl (v := 1 <<< ((nI (4 * a) : Int32).toInt64 &&& 63)) hx hb dX2_shifted_5 rfl ?_
  refine zz_l (y := lN (16 ^ a)) (lN_pw ha) ?_
  refine lv_lsub hx hb dX2_shifted_6 ?_
  refine lv_lconst (v := 1) hx hb dX2_shifted_7 (by decide) ?_
  refine lv_iconst (v := 4) hx hb dX2_shifted_8 (by decide) ?_
  refine lv_iload_n hx hb dX2_shifted_9 rfl (lv_at hl 2 rfl) ?_
  refine lv_imul hx hb dX2_shifted_10 ?_
  refine zz_i (y := nI (4 * b)) (pk_mul 4 b) ?_
  refine lv_lshl (v := 1 <<< ((nI (4 * b) : Int32).toInt64 &&& 63)) hx hb dX2_shifted_11 rfl ?_
  refine zz_l (y := lN (16 ^ b)) (lN_pw hb0) ?_
  refine lv_ladd hx hb dX2_shifted_12 ?_
  exact W.lret (v := ((lN n) - (lN (16 ^ a))) + (lN (16 ^ b))) hx hb hr (fun t ht hW => ⟨⟨_, (), rfl, (lN_sh hs), trivial⟩, hS.F ht⟩) hS.2.2 dX2_shifted_13

set_option maxHeartbeats 4000000 in
set_option maxRecDepth 100000 in
theorem c_X2_isAllHome (l : Launch) (n : Nat) (hn : n < 2 ^ 63)  : Met l yX2_isAllHome wsX2_isAllHome ({ frames := 0, cells := 0, slots := 0, locals := 0 }) (va_Pc [.long (lN n)] (fun _ => True)) (va_Qi (fun (r : Int32) (_ : Unit) => r = bI (zhome n)) (fun _ _ => True) zF) 0 0 zF := by
  refine Met.ofW (cc := cX2_isAllHome) (maxL := 2) (ret := (some .boolean)) (by decide) rfl ?_
  intro p e s m args below meth c s₁ B hml hv
  obtain ⟨rfl, -⟩ := hv
  have hx := B.exec
  have hb := B.bytes
  have hr := B.returns
  have hts := atoms_spec (ws := wsX2_isAllHome) B.pre
  have hown : s.vm.findClass RX2 = some m.cls := findClass_of_methodNamed B.named
  have hlocks := B.notSynchronized
  have hl := lv_entry ([.long (lN n)]) (n := 2) (Nat.le_of_ble_eq_true rfl)
  rw [lg_entry_eq]
  generalize (lg_sl ([.long (lN n)]) ++ List.replicate (2 - (lg_sl ([.long (lN n)])).length) Slot.unset).toArray = ls at hl ⊢
  have hl : lv_has ls 2 [(0, .long (lN n))] := hl
  have hP : va_P zG0 [] [] s.heap := fun k q h => by simp at h
  have hS : va_S zF s.heap s.heap [] := va_S.rf
  refine lv_lload_n hx hb dX2_isAllHome_0 rfl (lv_at hl 0 rfl) ?_
  refine lv_ldc2 (v := 1152921504606846975) hx hb hown (hts (.constantLong RX2 11 (1152921504606846975)) (List.mem_of_getElem? (i := 1) rfl)) dX2_isAllHome_1 ?_
  refine lv_land hx hb dX2_isAllHome_4 ?_
  refine zz_l (y := lN (n % 2 ^ 60)) (lN_home hn) ?_
  refine lv_lconst (v := 0) hx hb dX2_isAllHome_5 (by decide) ?_
  refine W.lcmp hx hb dX2_isAllHome_6 ?_
  refine lv_if_ne (tgt := 14) hx hb dX2_isAllHome_7 (by decide) (fun c_7 => ?_) (fun c_7 => ?_)
  · skip
    have c_7 : ¬ n % 2 ^ 60 = 0 := fun h9 => c_7 ((lg_cmp_eq _ _).mpr (by rw [h9]; rfl))
    refine lv_iconst (v := 0) hx hb dX2_isAllHome_14 (by decide) ?_
    exact W.zret (v := 0) hx hb hr rfl (fun t ht hW => ⟨⟨_, (), rfl, (bI_f (by simp [zhome, c_7] <;> omega)), trivial⟩, hS.F ht⟩) hS.2.2 dX2_isAllHome_15
  · skip
    have c_7 : n % 2 ^ 60 = 0 := (pk_lEQ (a := n % 2 ^ 60) (b := 0) (by omega) (by omega)).mp ((lg_cmp_eq _ _).mp c_7)
    refine lv_iconst (v := 1) hx hb dX2_isAllHome_10 (by decide) ?_
    refine lv_goto (tgt := 15) hx hb dX2_isAllHome_11 (by decide) ?_
    exact W.zret (v := 1) hx hb hr rfl (fun t ht hW => ⟨⟨_, (), rfl, (bI_t (by simp [zhome, c_7] <;> omega)), trivial⟩, hS.F ht⟩) hS.2.2 dX2_isAllHome_15

set_option maxHeartbeats 4000000 in
set_option maxRecDepth 100000 in
theorem c_X2_sumOfPlaces (l : Launch) (n : Nat) (hn : n < 2 ^ 63)  : Met l yX2_sumOfPlaces wsX2_sumOfPlaces ({ frames := 1, cells := 0, slots := 0, locals := 22 }) (va_Pc [.long (lN n)] (fun _ => True)) (va_Qi (fun (r : Int32) (_ : Unit) => r = nI (psum n 16)) (fun _ _ => True) zF) 0 0 zF := by
  refine Met.ofW (cc := cX2_sumOfPlaces) (maxL := 4) (ret := (some .int)) (by decide) rfl ?_
  intro p e s m args below meth c s₁ B hml hv
  obtain ⟨rfl, -⟩ := hv
  have hx := B.exec
  have hb := B.bytes
  have hr := B.returns
  have hts := atoms_spec (ws := wsX2_sumOfPlaces) B.pre
  have hown : s.vm.findClass RX2 = some m.cls := findClass_of_methodNamed B.named
  have hlocks := B.notSynchronized
  have hl := lv_entry ([.long (lN n)]) (n := 4) (Nat.le_of_ble_eq_true rfl)
  rw [lg_entry_eq]
  generalize (lg_sl ([.long (lN n)]) ++ List.replicate (4 - (lg_sl ([.long (lN n)])).length) Slot.unset).toArray = ls at hl ⊢
  have hl : lv_has ls 4 [(0, .long (lN n))] := hl
  have hP : va_P zG0 [] [] s.heap := fun k q h => by simp at h
  have hS : va_S zF s.heap s.heap [] := va_S.rf
  generalize hQe : MQ below _ _ _ _ _ _ = Q
  refine lv_iconst (v := 0) hx hb dX2_sumOfPlaces_0 (by decide) ?_
  refine lv_istore_n (lv' := [(2, .int 0), (0, .long (lN n))]) hx hb dX2_sumOfPlaces_1 rfl hl (by decide) rfl (fun ls hl => ?_)
  refine lv_iconst (v := 1) hx hb dX2_sumOfPlaces_2 (by decide) ?_
  refine lv_istore_n (lv' := [(3, .int 1), (2, .int 0), (0, .long (lN n))]) hx hb dX2_sumOfPlaces_3 rfl hl (by decide) rfl (fun ls hl => ?_)
  have lp : ∀ (n9 : Nat) (i : Nat) (sv : Int32), 1 ≤ i → i ≤ 16 → sv = nI (psum n i) → 16 - i < n9 → ∀ (H : Heap) (locs : List Loc), va_P zG0 [] [] H → va_S zF s.heap H locs → ∀ ls : Array Slot, lv_has ls 4 [(3, .int (nI i)), (2, .int sv), (0, .long (lN n))] → W p l e (headSpec wsX2_sumOfPlaces ({ frames := 1, cells := 0, slots := 0, locals := 22 })).room s m ([.long (lN n)] : List Value).toArray below meth c H locs 0 0 Q (F0 m 4 ls []) := by
    intro n9
    induction n9 with
    | zero => intro i sv hi1 hi2 hsv hm9; exact absurd hm9 (Nat.not_lt_zero _)
    | succ n9 ih4 =>
      intro i sv hi1 hi2 hsv hm9 H locs hP hS ls hl
      refine lv_iload_n hx hb dX2_sumOfPlaces_4 rfl (lv_at hl 0 rfl) ?_
      refine lv_bipush (v := 15) hx hb dX2_sumOfPlaces_5 (by decide) ?_
      refine lv_icmp_gt (tgt := 26) hx hb dX2_sumOfPlaces_7 (by decide) (fun c_7 => ?_) (fun c_7 => ?_)
      · skip
        have c_7 : 15 < i := (nI_ltI (a := 15) (b := i) (by omega) (by omega)).mp c_7
        refine lv_iload_n hx hb dX2_sumOfPlaces_26 rfl (lv_at hl 1 rfl) ?_
        subst hQe
        exact W.iret (v := sv) hx hb hr (fun t ht hW => ⟨⟨_, (), rfl, (by rw [hsv, show i = 16 by omega]), trivial⟩, hS.F ht⟩) hS.2.2 dX2_sumOfPlaces_27
      · skip
        have c_7 : ¬ 15 < i := fun h9 => c_7 ((nI_ltI (a := 15) (b := i) (by omega) (by omega)).mpr h9)
        refine lv_iload_n hx hb dX2_sumOfPlaces_10 rfl (lv_at hl 1 rfl) ?_
        refine lv_iload_n hx hb dX2_sumOfPlaces_11 rfl (lv_at hl 0 rfl) ?_
        refine lv_lload_n hx hb dX2_sumOfPlaces_12 rfl (lv_at hl 2 rfl) ?_
        refine lv_iload_n hx hb dX2_sumOfPlaces_13 rfl (lv_at hl 0 rfl) ?_
        refine zro_i (va_runS (As := [.long (lN n), .int (nI i)]) (rest := [.int (nI i), .int sv]) ⟨hx, hb, hml, hown, hts⟩ (c_X2_countAt l n (by omega) i (by omega)) (va_cwS 2 hts gX2_sumOfPlaces_X2_countAt rfl rfl rfl (by decide +kernel) ⟨Nat.le_of_ble_eq_true rfl, Nat.le_of_ble_eq_true rfl⟩) zPu rfl rfl hl.1 rfl (lv_room (Nat.le_of_ble_eq_true rfl)) dX2_sumOfPlaces_14 ⟨Nat.zero_le _, Nat.zero_le _⟩) hP hS (fun H locs hP hS => ?_)
        have hd_14 := dg_lt n i
        refine lv_imul hx hb dX2_sumOfPlaces_17 ?_
        refine zz_i (y := nI (i * (dg n i))) (pk_mul i (dg n i)) ?_
        refine lv_iadd hx hb dX2_sumOfPlaces_18 ?_
        refine zz_i (y := nI (psum n (i + 1))) (by rw [hsv, nI_add]; rfl) ?_
        refine lv_istore_n (lv' := [(2, .int (nI (psum n (i + 1)))), (3, .int (nI i)), (0, .long (lN n))]) hx hb dX2_sumOfPlaces_19 rfl hl (by decide) rfl (fun ls hl => ?_)
        refine lv_iinc (v := nI (i + 1)) (lv' := [(3, .int (nI (i + 1))), (2, .int (nI (psum n (i + 1)))), (0, .long (lN n))]) hx hb dX2_sumOfPlaces_20 hl (k := 1) rfl (nI_1 i) (by decide) rfl (fun ls hl => ?_)
        refine lv_goto (tgt := 4) hx hb dX2_sumOfPlaces_23 (by decide) ?_
        exact ih4 (i + 1) _ (by omega) (by omega) rfl (by omega) _ _ hP hS _ (lv_sub hl [0, 1, 2] rfl)
  exact lp 17 1 0 (by omega) (by omega) (by simp [psum]; rfl) (by omega) _ _ hP hS _ (lv_sub hl [0, 1, 2] rfl)

set_option maxHeartbeats 4000000 in
set_option maxRecDepth 100000 in
theorem c_X2_firstPlace (l : Launch) (n : Nat) (hn : n < 2 ^ 63)  : Met l yX2_firstPlace wsX2_firstPlace ({ frames := 1, cells := 0, slots := 0, locals := 22 }) (va_Pc [.long (lN n)] (fun _ => True)) (va_Qi (fun (r : Int32) (_ : Unit) => r = nI (zfs n 0 15)) (fun _ _ => True) zF) 0 0 zF := by
  refine Met.ofW (cc := cX2_firstPlace) (maxL := 3) (ret := (some .int)) (by decide) rfl ?_
  intro p e s m args below meth c s₁ B hml hv
  obtain ⟨rfl, -⟩ := hv
  have hx := B.exec
  have hb := B.bytes
  have hr := B.returns
  have hts := atoms_spec (ws := wsX2_firstPlace) B.pre
  have hown : s.vm.findClass RX2 = some m.cls := findClass_of_methodNamed B.named
  have hlocks := B.notSynchronized
  have hl := lv_entry ([.long (lN n)]) (n := 3) (Nat.le_of_ble_eq_true rfl)
  rw [lg_entry_eq]
  generalize (lg_sl ([.long (lN n)]) ++ List.replicate (3 - (lg_sl ([.long (lN n)])).length) Slot.unset).toArray = ls at hl ⊢
  have hl : lv_has ls 3 [(0, .long (lN n))] := hl
  have hP : va_P zG0 [] [] s.heap := fun k q h => by simp at h
  have hS : va_S zF s.heap s.heap [] := va_S.rf
  generalize hQe : MQ below _ _ _ _ _ _ = Q
  refine lv_iconst (v := 0) hx hb dX2_firstPlace_0 (by decide) ?_
  refine lv_istore_n (lv' := [(2, .int 0), (0, .long (lN n))]) hx hb dX2_firstPlace_1 rfl hl (by decide) rfl (fun ls hl => ?_)
  have lp : ∀ (n9 : Nat) (i : Nat) (j : Nat), i + j = 15 → zfs n 0 15 = zfs n i j → 15 - i < n9 → ∀ (H : Heap) (locs : List Loc), va_P zG0 [] [] H → va_S zF s.heap H locs → ∀ ls : Array Slot, lv_has ls 3 [(2, .int (nI i)), (0, .long (lN n))] → W p l e (headSpec wsX2_firstPlace ({ frames := 1, cells := 0, slots := 0, locals := 22 })).room s m ([.long (lN n)] : List Value).toArray below meth c H locs 0 0 Q (F0 m 2 ls []) := by
    intro n9
    induction n9 with
    | zero => intro i j hi2 hf hm9; exact absurd hm9 (Nat.not_lt_zero _)
    | succ n9 ih2 =>
      intro i j hi2 hf hm9 H locs hP hS ls hl
      refine lv_iload_n hx hb dX2_firstPlace_2 rfl (lv_at hl 0 rfl) ?_
      refine lv_bipush (v := 15) hx hb dX2_firstPlace_3 (by decide) ?_
      refine lv_icmp_ge (tgt := 22) hx hb dX2_firstPlace_5 (by decide) (fun c_5 => ?_) (fun c_5 => ?_)
      · skip
        have c_5 : 15 ≤ i := (nI_leI (a := 15) (b := i) (by omega) (by omega)).mp c_5
        refine lv_iload_n hx hb dX2_firstPlace_22 rfl (lv_at hl 0 rfl) ?_
        subst hQe
        exact W.iret (v := nI i) hx hb hr (fun t ht hW => ⟨⟨_, (), rfl, (by rw [hf, show j = 0 by omega]; rfl), trivial⟩, hS.F ht⟩) hS.2.2 dX2_firstPlace_23
      · skip
        have c_5 : ¬ 15 ≤ i := fun h9 => c_5 ((nI_leI (a := 15) (b := i) (by omega) (by omega)).mpr h9)
        refine lv_lload_n hx hb dX2_firstPlace_8 rfl (lv_at hl 1 rfl) ?_
        refine lv_iload_n hx hb dX2_firstPlace_9 rfl (lv_at hl 0 rfl) ?_
        refine zro_i (va_runS (As := [.long (lN n), .int (nI i)]) (rest := []) ⟨hx, hb, hml, hown, hts⟩ (c_X2_countAt l n (by omega) i (by omega)) (va_cwS 2 hts gX2_firstPlace_X2_countAt rfl rfl rfl (by decide +kernel) ⟨Nat.le_of_ble_eq_true rfl, Nat.le_of_ble_eq_true rfl⟩) zPu rfl rfl hl.1 rfl (lv_room (Nat.le_of_ble_eq_true rfl)) dX2_firstPlace_10 ⟨Nat.zero_le _, Nat.zero_le _⟩) hP hS (fun H locs hP hS => ?_)
        have hd_10 := dg_lt n i
        refine lv_if_ne (tgt := 22) hx hb dX2_firstPlace_13 (by decide) (fun c_13 => ?_) (fun c_13 => ?_)
        · skip
          have c_13 : ¬ (dg n i) = 0 := fun h9 => c_13 ((nI_eq (a := dg n i) (b := 0) (by omega) (by omega)).mpr h9)
          refine lv_iload_n hx hb dX2_firstPlace_22 rfl (lv_at hl 0 rfl) ?_
          subst hQe
          exact W.iret (v := nI i) hx hb hr (fun t ht hW => ⟨⟨_, (), rfl, (by rw [hf]; obtain ⟨j9, rfl⟩ : ∃ j9, j = j9 + 1 := ⟨j - 1, by omega⟩; rw [zfs_s, if_neg c_13]), trivial⟩, hS.F ht⟩) hS.2.2 dX2_firstPlace_23
        · skip
          have c_13 : (dg n i) = 0 := (nI_eq (a := dg n i) (b := 0) (by omega) (by omega)).mp c_13
          refine lv_iinc (v := nI (i + 1)) (lv' := [(2, .int (nI (i + 1))), (0, .long (lN n))]) hx hb dX2_firstPlace_16 hl (k := 0) rfl (nI_1 i) (by decide) rfl (fun ls hl => ?_)
          refine lv_goto (tgt := 2) hx hb dX2_firstPlace_19 (by decide) ?_
          exact ih2 (i + 1) (j - 1) (by omega) (by rw [hf]; obtain ⟨j9, rfl⟩ : ∃ j9, j = j9 + 1 := ⟨j - 1, by omega⟩; rw [zfs_s, if_pos c_13]; rfl) (by omega) _ _ hP hS _ (lv_sub hl [0, 1] rfl)
  exact lp 16 0 15 (by omega) rfl (by omega) _ _ hP hS _ (lv_sub hl [0, 1] rfl)

set_option maxHeartbeats 4000000 in
set_option maxRecDepth 100000 in
theorem c_X2_canBeTaken (l : Launch) (n : Nat) (hn : n < 2 ^ 63) (pl : Nat) (hp : pl < 1000)  : Met l yX2_canBeTaken wsX2_canBeTaken ({ frames := 1, cells := 0, slots := 0, locals := 22 }) (va_Pc [.long (lN n), .int (nI pl)] (fun _ => True)) (va_Qi (fun (r : Int32) (_ : Unit) => r = bI (ztk n pl)) (fun _ _ => True) zF) 0 0 zF := by
  refine Met.ofW (cc := cX2_canBeTaken) (maxL := 3) (ret := (some .boolean)) (by decide) rfl ?_
  intro p e s m args below meth c s₁ B hml hv
  obtain ⟨rfl, -⟩ := hv
  have hx := B.exec
  have hb := B.bytes
  have hr := B.returns
  have hts := atoms_spec (ws := wsX2_canBeTaken) B.pre
  have hown : s.vm.findClass RX2 = some m.cls := findClass_of_methodNamed B.named
  have hlocks := B.notSynchronized
  have hl := lv_entry ([.long (lN n), .int (nI pl)]) (n := 3) (Nat.le_of_ble_eq_true rfl)
  rw [lg_entry_eq]
  generalize (lg_sl ([.long (lN n), .int (nI pl)]) ++ List.replicate (3 - (lg_sl ([.long (lN n), .int (nI pl)])).length) Slot.unset).toArray = ls at hl ⊢
  have hl : lv_has ls 3 [(0, .long (lN n)), (2, .int (nI pl))] := hl
  have hP : va_P zG0 [] [] s.heap := fun k q h => by simp at h
  have hS : va_S zF s.heap s.heap [] := va_S.rf
  refine lv_iload_n hx hb dX2_canBeTaken_0 rfl (lv_at hl 1 rfl) ?_
  refine zro_i (va_runS (As := [.int (nI pl)]) (rest := []) ⟨hx, hb, hml, hown, hts⟩ (c_X4_isShared l pl (by omega)) (va_cwS 1 hts gX2_canBeTaken_X4_isShared rfl rfl rfl (by decide +kernel) ⟨Nat.le_of_ble_eq_true rfl, Nat.le_of_ble_eq_true rfl⟩) zPu rfl rfl hl.1 rfl (lv_room (Nat.le_of_ble_eq_true rfl)) dX2_canBeTaken_1 ⟨Nat.zero_le _, Nat.zero_le _⟩) hP hS (fun H locs hP hS => ?_)
  refine lv_if_eq (tgt := 19) hx hb dX2_canBeTaken_4 (by decide) (fun c_4 => ?_) (fun c_4 => ?_)
  · skip
    have c_4 := bI_0.mp c_4
    refine lv_iconst (v := 0) hx hb dX2_canBeTaken_19 (by decide) ?_
    exact W.zret (v := 0) hx hb hr rfl (fun t ht hW => ⟨⟨_, (), rfl, (bI_f (by simp [ztk, c_4] <;> omega)), trivial⟩, hS.F ht⟩) hS.2.2 dX2_canBeTaken_20
  · skip
    have c_4 := bI_1.mp c_4
    refine lv_lload_n hx hb dX2_canBeTaken_7 rfl (lv_at hl 0 rfl) ?_
    refine lv_iload_n hx hb dX2_canBeTaken_8 rfl (lv_at hl 1 rfl) ?_
    refine zro_i (va_runS (As := [.long (lN n), .int (nI pl)]) (rest := []) ⟨hx, hb, hml, hown, hts⟩ (c_X2_countAt l n (by omega) pl (by omega)) (va_cwS 2 hts gX2_canBeTaken_X2_countAt rfl rfl rfl (by decide +kernel) ⟨Nat.le_of_ble_eq_true rfl, Nat.le_of_ble_eq_true rfl⟩) zPu rfl rfl hl.1 rfl (lv_room (Nat.le_of_ble_eq_true rfl)) dX2_canBeTaken_9 ⟨Nat.zero_le _, Nat.zero_le _⟩) hP hS (fun H locs hP hS => ?_)
    have hd_9 := dg_lt n pl
    refine lv_if_le (tgt := 19) hx hb dX2_canBeTaken_12 (by decide) (fun c_12 => ?_) (fun c_12 => ?_)
    · skip
      have c_12 : (dg n pl) ≤ 0 := (nI_leI (a := dg n pl) (b := 0) (by omega) (by omega)).mp c_12
      refine lv_iconst (v := 0) hx hb dX2_canBeTaken_19 (by decide) ?_
      exact W.zret (v := 0) hx hb hr rfl (fun t ht hW => ⟨⟨_, (), rfl, (bI_f (by simp [ztk, c_4, c_12] <;> omega)), trivial⟩, hS.F ht⟩) hS.2.2 dX2_canBeTaken_20
    · skip
      have c_12 : ¬ (dg n pl) ≤ 0 := fun h9 => c_12 ((nI_leI (a := dg n pl) (b := 0) (by omega) (by omega)).mpr h9)
      refine lv_iconst (v := 1) hx hb dX2_canBeTaken_15 (by decide) ?_
      refine lv_goto (tgt := 20) hx hb dX2_canBeTaken_16 (by decide) ?_
      exact W.zret (v := 1) hx hb hr rfl (fun t ht hW => ⟨⟨_, (), rfl, (bI_t (by simp [ztk, c_4, c_12] <;> omega)), trivial⟩, hS.F ht⟩) hS.2.2 dX2_canBeTaken_20

set_option maxHeartbeats 4000000 in
set_option maxRecDepth 100000 in
theorem c_X2_canMove (l : Launch) (own oth fr mm : Nat) (mk : Int32) (hn : own < 2 ^ 63) (hn2 : oth < 2 ^ 63) (hfr : fr ≤ 14) (hmm : mm ≤ 4) (hmk : zmk mk mm)  : Met l yX2_canMove wsX2_canMove ({ frames := 1, cells := 0, slots := 0, locals := 22 }) (va_Pc [.long (lN own), .long (lN oth), .int (nI fr), .int mk] (fun _ => True)) (va_Qi (fun (r : Int32) (_ : Unit) => r = bI (zcm own oth fr mm)) (fun _ _ => True) zF) 0 0 zF := by
  refine Met.ofW (cc := cX2_canMove) (maxL := 7) (ret := (some .boolean)) (by decide) rfl ?_
  intro p e s m args below meth c s₁ B hml hv
  obtain ⟨rfl, -⟩ := hv
  have hx := B.exec
  have hb := B.bytes
  have hr := B.returns
  have hts := atoms_spec (ws := wsX2_canMove) B.pre
  have hown : s.vm.findClass RX2 = some m.cls := findClass_of_methodNamed B.named
  have hlocks := B.notSynchronized
  have hl := lv_entry ([.long (lN own), .long (lN oth), .int (nI fr), .int mk]) (n := 7) (Nat.le_of_ble_eq_true rfl)
  rw [lg_entry_eq]
  generalize (lg_sl ([.long (lN own), .long (lN oth), .int (nI fr), .int mk]) ++ List.replicate (7 - (lg_sl ([.long (lN own), .long (lN oth), .int (nI fr), .int mk])).length) Slot.unset).toArray = ls at hl ⊢
  have hl : lv_has ls 7 [(0, .long (lN own)), (2, .long (lN oth)), (4, .int (nI fr)), (5, .int mk)] := hl
  have hP : va_P zG0 [] [] s.heap := fun k q h => by simp at h
  have hS : va_S zF s.heap s.heap [] := va_S.rf
  refine lv_iload hx hb dX2_canMove_0 (lv_at hl 3 rfl) ?_
  refine lv_if_le (tgt := 14) hx hb dX2_canMove_2 (by decide) (fun c_2 => ?_) (fun c_2 => ?_)
  · skip
    have c_2 : mm = 0 := zmk_le hmk hmm c_2
    refine lv_iconst (v := 0) hx hb dX2_canMove_14 (by decide) ?_
    exact W.zret (v := 0) hx hb hr rfl (fun t ht hW => ⟨⟨_, (), rfl, (bI_f (by simp [zcm, c_2] <;> omega)), trivial⟩, hS.F ht⟩) hS.2.2 dX2_canMove_15
  · skip
    have c_2 : 0 < mm := zmk_gt hmk c_2
    obtain rfl : mk = nI mm := zmk_eq hmk c_2
    refine lv_lload_n hx hb dX2_canMove_5 rfl (lv_at hl 0 rfl) ?_
    refine lv_iload hx hb dX2_canMove_6 (lv_at hl 2 rfl) ?_
    refine zro_i (va_runS (As := [.long (lN own), .int (nI fr)]) (rest := []) ⟨hx, hb, hml, hown, hts⟩ (c_X2_countAt l own (by omega) fr (by omega)) (va_cwS 2 hts gX2_canMove_X2_countAt rfl rfl rfl (by decide +kernel) ⟨Nat.le_of_ble_eq_true rfl, Nat.le_of_ble_eq_true rfl⟩) zPu rfl rfl hl.1 rfl (lv_room (Nat.le_of_ble_eq_true rfl)) dX2_canMove_8 ⟨Nat.zero_le _, Nat.zero_le _⟩) hP hS (fun H locs hP hS => ?_)
    have hd_8 := dg_lt own fr
    refine lv_if_ne (tgt := 16) hx hb dX2_canMove_11 (by decide) (fun c_11 => ?_) (fun c_11 => ?_)
    · skip
      have c_11 : ¬ (dg own fr) = 0 := fun h9 => c_11 ((nI_eq (a := dg own fr) (b := 0) (by omega) (by omega)).mpr h9)
      refine lv_iload hx hb dX2_canMove_16 (lv_at hl 2 rfl) ?_
      refine lv_iload hx hb dX2_canMove_18 (lv_at hl 3 rfl) ?_
      refine lv_iadd hx hb dX2_canMove_20 ?_
      refine zz_i (y := nI (fr + mm)) (nI_add fr mm) ?_
      refine lv_istore (lv' := [(6, .int (nI (fr + mm))), (0, .long (lN own)), (2, .long (lN oth)), (4, .int (nI fr)), (5, .int (nI mm))]) hx hb dX2_canMove_21 hl (by decide) rfl (fun ls hl => ?_)
      refine lv_iload hx hb dX2_canMove_23 (lv_at hl 0 rfl) ?_
      refine lv_lload_n hx hb dX2_canMove_25 rfl (lv_at hl 1 rfl) ?_
      refine lv_iload hx hb dX2_canMove_26 (lv_at hl 0 rfl) ?_
      refine zro_i (va_runS (As := [.long (lN own), .int (nI (fr + mm))]) (rest := [.int (nI (fr + mm))]) ⟨hx, hb, hml, hown, hts⟩ (c_X2_countAt l own (by omega) (fr + mm) (by omega)) (va_cwS 2 hts gX2_canMove_X2_countAt rfl rfl rfl (by decide +kernel) ⟨Nat.le_of_ble_eq_true rfl, Nat.le_of_ble_eq_true rfl⟩) zPu rfl rfl hl.1 rfl (lv_room (Nat.le_of_ble_eq_true rfl)) dX2_canMove_28 ⟨Nat.zero_le _, Nat.zero_le _⟩) hP hS (fun H locs hP hS => ?_)
      have hd_28 := dg_lt own (fr + mm)
      refine lv_if_le (tgt := 38) hx hb dX2_canMove_31 (by decide) (fun c_31 => ?_) (fun c_31 => ?_)
      · skip
        have c_31 : (dg own (fr + mm)) ≤ 0 := (nI_leI (a := dg own (fr + mm)) (b := 0) (by omega) (by omega)).mp c_31
        refine lv_iconst (v := 0) hx hb dX2_canMove_38 (by decide) ?_
        refine lv_lload_n hx hb dX2_canMove_39 rfl (lv_at hl 2 rfl) ?_
        refine lv_iload hx hb dX2_canMove_40 (lv_at hl 0 rfl) ?_
        refine zro_i (va_runS (As := [.long (lN oth), .int (nI (fr + mm))]) (rest := [.int 0, .int (nI (fr + mm))]) ⟨hx, hb, hml, hown, hts⟩ (c_X2_countAt l oth (by omega) (fr + mm) (by omega)) (va_cwS 2 hts gX2_canMove_X2_countAt rfl rfl rfl (by decide +kernel) ⟨Nat.le_of_ble_eq_true rfl, Nat.le_of_ble_eq_true rfl⟩) zPu rfl rfl hl.1 rfl (lv_room (Nat.le_of_ble_eq_true rfl)) dX2_canMove_42 ⟨Nat.zero_le _, Nat.zero_le _⟩) hP hS (fun H locs hP hS => ?_)
        have hd_42 := dg_lt oth (fr + mm)
        refine lv_if_le (tgt := 52) hx hb dX2_canMove_45 (by decide) (fun c_45 => ?_) (fun c_45 => ?_)
        · skip
          have c_45 : (dg oth (fr + mm)) ≤ 0 := (nI_leI (a := dg oth (fr + mm)) (b := 0) (by omega) (by omega)).mp c_45
          refine lv_iconst (v := 0) hx hb dX2_canMove_52 (by decide) ?_
          refine zro_i (va_runS (As := [.int (nI (fr + mm)), .int 0, .int 0]) (rest := []) ⟨hx, hb, hml, hown, hts⟩ (c_X4_canEnter l (fr + mm) (by omega) false false) (va_cwS 3 hts gX2_canMove_X4_canEnter rfl rfl rfl (by decide +kernel) ⟨Nat.le_of_ble_eq_true rfl, Nat.le_of_ble_eq_true rfl⟩) zPu rfl rfl hl.1 rfl (lv_room (Nat.le_of_ble_eq_true rfl)) dX2_canMove_53 ⟨Nat.zero_le _, Nat.zero_le _⟩) hP hS (fun H locs hP hS => ?_)
          exact W.zret (v := bI (zcen (fr + mm) false false)) hx hb hr (bI_nar _) (fun t ht hW => ⟨⟨_, (), rfl, congrArg bI (zcm_c (by omega) (by omega) (by simp; omega) (by simp; omega)), trivial⟩, hS.F ht⟩) hS.2.2 dX2_canMove_56
        · skip
          have c_45 : ¬ (dg oth (fr + mm)) ≤ 0 := fun h9 => c_45 ((nI_leI (a := dg oth (fr + mm)) (b := 0) (by omega) (by omega)).mpr h9)
          refine lv_iconst (v := 1) hx hb dX2_canMove_48 (by decide) ?_
          refine lv_goto (tgt := 53) hx hb dX2_canMove_49 (by decide) ?_
          refine zro_i (va_runS (As := [.int (nI (fr + mm)), .int 0, .int 1]) (rest := []) ⟨hx, hb, hml, hown, hts⟩ (c_X4_canEnter l (fr + mm) (by omega) false true) (va_cwS 3 hts gX2_canMove_X4_canEnter rfl rfl rfl (by decide +kernel) ⟨Nat.le_of_ble_eq_true rfl, Nat.le_of_ble_eq_true rfl⟩) zPu rfl rfl hl.1 rfl (lv_room (Nat.le_of_ble_eq_true rfl)) dX2_canMove_53 ⟨Nat.zero_le _, Nat.zero_le _⟩) hP hS (fun H locs hP hS => ?_)
          exact W.zret (v := bI (zcen (fr + mm) false true)) hx hb hr (bI_nar _) (fun t ht hW => ⟨⟨_, (), rfl, congrArg bI (zcm_c (by omega) (by omega) (by simp; omega) (by simp; omega)), trivial⟩, hS.F ht⟩) hS.2.2 dX2_canMove_56
      · skip
        have c_31 : ¬ (dg own (fr + mm)) ≤ 0 := fun h9 => c_31 ((nI_leI (a := dg own (fr + mm)) (b := 0) (by omega) (by omega)).mpr h9)
        refine lv_iconst (v := 1) hx hb dX2_canMove_34 (by decide) ?_
        refine lv_goto (tgt := 39) hx hb dX2_canMove_35 (by decide) ?_
        refine lv_lload_n hx hb dX2_canMove_39 rfl (lv_at hl 2 rfl) ?_
        refine lv_iload hx hb dX2_canMove_40 (lv_at hl 0 rfl) ?_
        refine zro_i (va_runS (As := [.long (lN oth), .int (nI (fr + mm))]) (rest := [.int 1, .int (nI (fr + mm))]) ⟨hx, hb, hml, hown, hts⟩ (c_X2_countAt l oth (by omega) (fr + mm) (by omega)) (va_cwS 2 hts gX2_canMove_X2_countAt rfl rfl rfl (by decide +kernel) ⟨Nat.le_of_ble_eq_true rfl, Nat.le_of_ble_eq_true rfl⟩) zPu rfl rfl hl.1 rfl (lv_room (Nat.le_of_ble_eq_true rfl)) dX2_canMove_42 ⟨Nat.zero_le _, Nat.zero_le _⟩) hP hS (fun H locs hP hS => ?_)
        have hd_42 := dg_lt oth (fr + mm)
        refine lv_if_le (tgt := 52) hx hb dX2_canMove_45 (by decide) (fun c_45 => ?_) (fun c_45 => ?_)
        · skip
          have c_45 : (dg oth (fr + mm)) ≤ 0 := (nI_leI (a := dg oth (fr + mm)) (b := 0) (by omega) (by omega)).mp c_45
          refine lv_iconst (v := 0) hx hb dX2_canMove_52 (by decide) ?_
          refine zro_i (va_runS (As := [.int (nI (fr + mm)), .int 1, .int 0]) (rest := []) ⟨hx, hb, hml, hown, hts⟩ (c_X4_canEnter l (fr + mm) (by omega) true false) (va_cwS 3 hts gX2_canMove_X4_canEnter rfl rfl rfl (by decide +kernel) ⟨Nat.le_of_ble_eq_true rfl, Nat.le_of_ble_eq_true rfl⟩) zPu rfl rfl hl.1 rfl (lv_room (Nat.le_of_ble_eq_true rfl)) dX2_canMove_53 ⟨Nat.zero_le _, Nat.zero_le _⟩) hP hS (fun H locs hP hS => ?_)
          exact W.zret (v := bI (zcen (fr + mm) true false)) hx hb hr (bI_nar _) (fun t ht hW => ⟨⟨_, (), rfl, congrArg bI (zcm_c (by omega) (by omega) (by simp; omega) (by simp; omega)), trivial⟩, hS.F ht⟩) hS.2.2 dX2_canMove_56
        · skip
          have c_45 : ¬ (dg oth (fr + mm)) ≤ 0 := fun h9 => c_45 ((nI_leI (a := dg oth (fr + mm)) (b := 0) (by omega) (by omega)).mpr h9)
          refine lv_iconst (v := 1) hx hb dX2_canMove_48 (by decide) ?_
          refine lv_goto (tgt := 53) hx hb dX2_canMove_49 (by decide) ?_
          refine zro_i (va_runS (As := [.int (nI (fr + mm)), .int 1, .int 1]) (rest := []) ⟨hx, hb, hml, hown, hts⟩ (c_X4_canEnter l (fr + mm) (by omega) true true) (va_cwS 3 hts gX2_canMove_X4_canEnter rfl rfl rfl (by decide +kernel) ⟨Nat.le_of_ble_eq_true rfl, Nat.le_of_ble_eq_true rfl⟩) zPu rfl rfl hl.1 rfl (lv_room (Nat.le_of_ble_eq_true rfl)) dX2_canMove_53 ⟨Nat.zero_le _, Nat.zero_le _⟩) hP hS (fun H locs hP hS => ?_)
          exact W.zret (v := bI (zcen (fr + mm) true true)) hx hb hr (bI_nar _) (fun t ht hW => ⟨⟨_, (), rfl, congrArg bI (zcm_c (by omega) (by omega) (by simp; omega) (by simp; omega)), trivial⟩, hS.F ht⟩) hS.2.2 dX2_canMove_56
    · skip
      have c_11 : (dg own fr) = 0 := (nI_eq (a := dg own fr) (b := 0) (by omega) (by omega)).mp c_11
      refine lv_iconst (v := 0) hx hb dX2_canMove_14 (by decide) ?_
      exact W.zret (v := 0) hx hb hr rfl (fun t ht hW => ⟨⟨_, (), rfl, (bI_f (by simp [zcm, c_2, c_11] <;> omega)), trivial⟩, hS.F ht⟩) hS.2.2 dX2_canMove_15
end
section
/-! the marks' table of the class, and what a throw looks at: statics that stay -/
def ztv : Nat → Value := fun j => .int (nI (ztm j))
def zX (t : Nat) (A : Nat → Prop) (U : State) (H : Heap) : Prop := va_Z "RoyalUrTable$Dice" "TIMES_IN_16" "[I" (.ref t) A U H ∧ va_T .int t 5 ztv A U H
theorem zX.moved {t : Nat} {A : Nat → Prop} {u U : State} {H : Heap} (hvm : u.vm.Alike U.vm) (h : zX t A u H) : zX t A U H := ⟨va_Z.moved hvm h.1, va_T.moved hvm h.2⟩
theorem zX.kept {t : Nat} {A : Nat → Prop} {U : State} {H H1 : Heap} (h : zX t A U H) (hq : ∀ a : Nat, a < H.size → ¬ A a → H1[a]? = H[a]?) : zX t A U H1 := ⟨va_Z.kept h.1 hq, va_T.kept h.2 hq⟩
theorem zX.narrow {t : Nat} {A B : Nat → Prop} {U : State} {H : Heap} (h : zX t A U H) (hAB : ∀ q, B q → A q) : zX t B U H := ⟨va_Z.narrow h.1 hAB, va_T.narrow h.2 hAB⟩
abbrev zIA : String := "java/lang/IllegalArgumentException"
abbrev zIS : String := "java/lang/IllegalStateException"
theorem zNwD {x : MethodName} {u U : State} (hvm : u.vm.Alike U.vm) (h : va_Nw (.declares x) u) : va_Nw (.declares x) U := va_tabs rfl (rfl : (u.setVm U.vm).vm = U.vm) (by rw [Cond.declares_setVm hvm]; exact h)
theorem zNwC {C T : String} {u U : State} (hvm : u.vm.Alike U.vm) (h : va_Nw (.castable C T) u) : va_Nw (.castable C T) U := va_tabs rfl (rfl : (u.setVm U.vm).vm = U.vm) (by rw [Cond.castable_setVm hvm]; exact h)
/-- what the tables say of the two kinds of throw -/
def zN (U : State) : Prop := va_Nw (.declares (Bundle.init0 "java/lang/RuntimeException")) U ∧ va_Nw (.declares (Bundle.init0 "java/lang/Exception")) U ∧ va_Nw (.declares (Bundle.init0 Bundle.tN)) U ∧ va_Nw (.castable zIA zIA) U ∧ va_Nw (.castable zIS zIS) U
theorem zN.moved {u U : State} (hvm : u.vm.Alike U.vm) (h : zN u) : zN U := ⟨zNwD hvm h.1, zNwD hvm h.2.1, zNwD hvm h.2.2.1, zNwC hvm h.2.2.2.1, zNwC hvm h.2.2.2.2⟩
def zY (A : Nat → Prop) (U : State) (H : Heap) : Prop := vx_Zq Bundle.tN "UNASSIGNED_STACK" Bundle.steD A U H ∧ vx_Zq Bundle.tN "SUPPRESSED_SENTINEL" Bundle.listD A U H ∧ zN U
theorem zY.moved {A : Nat → Prop} {u U : State} {H : Heap} (hvm : u.vm.Alike U.vm) (h : zY A u H) : zY A U H := ⟨vx_Zq.moved hvm h.1, vx_Zq.moved hvm h.2.1, h.2.2.moved hvm⟩
theorem zY.kept {A : Nat → Prop} {U : State} {H H1 : Heap} (h : zY A U H) (hq : ∀ a : Nat, a < H.size → ¬ A a → H1[a]? = H[a]?) : zY A U H1 := ⟨vx_Zq.kept h.1 hq, vx_Zq.kept h.2.1 hq, h.2.2⟩
theorem zY.narrow {A B : Nat → Prop} {U : State} {H : Heap} (h : zY A U H) (hAB : ∀ q, B q → A q) : zY B U H := ⟨vx_Zq.narrow h.1 hAB, vx_Zq.narrow h.2.1 hAB, h.2.2⟩
def zG (t : Nat) (A : Nat → Prop) (U : State) (H : Heap) : Prop := zX t A U H ∧ zY A U H
theorem zG.moved {t : Nat} {A : Nat → Prop} {u U : State} {H : Heap} (hvm : u.vm.Alike U.vm) (h : zG t A u H) : zG t A U H := ⟨h.1.moved hvm, h.2.moved hvm⟩
theorem zG.kept {t : Nat} {A : Nat → Prop} {U : State} {H H1 : Heap} (h : zG t A U H) (hq : ∀ a : Nat, a < H.size → ¬ A a → H1[a]? = H[a]?) : zG t A U H1 := ⟨h.1.kept hq, h.2.kept hq⟩
theorem zG.narrow {t : Nat} {A B : Nat → Prop} {U : State} {H : Heap} (h : zG t A U H) (hAB : ∀ q, B q → A q) : zG t B U H := ⟨h.1.narrow hAB, h.2.narrow hAB⟩
theorem zB_X {t : Nat} {A : Nat → Prop} : zB (fun U => zX t A U U.heap) := fun U V hv hh h => by show _; simp only [hh]; exact h.moved hv
theorem zB_Y {A : Nat → Prop} : zB (fun U => zY A U U.heap) := fun U V hv hh h => by show _; simp only [hh]; exact h.moved hv
theorem zB_G {t : Nat} {A : Nat → Prop} : zB (fun U => zG t A U U.heap) := fun U V hv hh h => by show _; simp only [hh]; exact h.moved hv
/-- .. at a call -/
theorem zX_at {t : Nat} {A B : Nat → Prop} {s : State} {H : Heap} {locs : List Loc} (h : zX t A s s.heap) (hS : va_S A s.heap H locs) (hAB : ∀ q, B q → A q) : ∀ U : State, U.heap = H → s.vm.Alike U.vm → zX t B U U.heap := fun U hU hv => by rw [hU]; exact ((h.kept hS.2.1).moved hv).narrow hAB
theorem zY_at {A B : Nat → Prop} {s : State} {H : Heap} {locs : List Loc} (h : zY A s s.heap) (hS : va_S A s.heap H locs) (hAB : ∀ q, B q → A q) : ∀ U : State, U.heap = H → s.vm.Alike U.vm → zY B U U.heap := fun U hU hv => by rw [hU]; exact ((h.kept hS.2.1).moved hv).narrow hAB
theorem zG_at {t : Nat} {A B : Nat → Prop} {s : State} {H : Heap} {locs : List Loc} (h : zG t A s s.heap) (hS : va_S A s.heap H locs) (hAB : ∀ q, B q → A q) : ∀ U : State, U.heap = H → s.vm.Alike U.vm → zG t B U U.heap := fun U hU hv => by rw [hU]; exact ((h.kept hS.2.1).moved hv).narrow hAB
theorem zF_A {A : Nat → Prop} : ∀ q, zF q → A q := fun _ h => h.elim
/-- a start of a method on numbers and such statics -/
theorem zPx {s : State} {H : Heap} {As : List Value} {X : State → Prop} (hX : zB X) (hXs : ∀ U : State, U.heap = H → s.vm.Alike U.vm → X U) : PreS s H (va_Pc As X) As :=
  ⟨fun a U g mk q => ⟨q.1, hX U (U.calling g mk a) (Vm.Alike.refl U.vm) rfl q.2⟩, fun U hU hW => ⟨rfl, hXs U hU hW.alike⟩⟩
set_option maxHeartbeats 4000000 in
set_option maxRecDepth 100000 in
theorem c_X0_timesIn16 (l : Launch) (tb mm : Nat) (hmm : mm ≤ 4) : Met l yX0_timesIn16 wsX0_timesIn16 ({ frames := 0, cells := 0, slots := 0, locals := 0 }) (va_Pc [.int (nI mm)] (fun U => zX tb zF U U.heap)) (va_Qi (fun (r : Int32) (_ : Unit) => r = nI (ztm mm)) (fun _ _ => True) zF) 0 0 zF := by
  refine Met.ofW (cc := cX0_timesIn16) (maxL := 1) (ret := (some .int)) (by decide) rfl ?_
  intro p e s m args below meth c s₁ B hml hv
  obtain ⟨rfl, hX⟩ := hv
  have hx := B.exec
  have hb := B.bytes
  have hr := B.returns
  have hts := atoms_spec (ws := wsX0_timesIn16) B.pre
  have hown : s.vm.findClass RX0 = some m.cls := findClass_of_methodNamed B.named
  have hlocks := B.notSynchronized
  have hl := lv_entry ([.int (nI mm)]) (n := 1) (Nat.le_of_ble_eq_true rfl)
  rw [lg_entry_eq]
  generalize (lg_sl ([.int (nI mm)]) ++ List.replicate (1 - (lg_sl ([.int (nI mm)])).length) Slot.unset).toArray = ls at hl ⊢
  have hl : lv_has ls 1 [(0, .int (nI mm))] := hl
  have hS : va_S zF s.heap s.heap [] := va_S.rf
  refine lv_iload_n hx hb dX0_timesIn16_0 rfl (lv_at hl 0 rfl) ?_
  refine lv_if_lt (tgt := 12) hx hb dX0_timesIn16_1 (by decide) (fun c_1 => absurd ((nI_ltI (a := mm) (b := 0) (by omega) (by omega)).mp c_1) (Nat.not_lt_zero _)) (fun _ => ?_)
  refine lv_iload_n hx hb dX0_timesIn16_4 rfl (lv_at hl 0 rfl) ?_
  refine va_gets (A := zF) hx hb hX.1 hS hown (hts (.fieldLink RX0 7 "RoyalUrTable$Dice" "TIMES_IN_16" "[I") (List.mem_of_getElem? (i := 1) rfl)) (fun _ h9 => h9) dX0_timesIn16_5 ?_
  refine va_tlen (v := 5) hx hb hX.2 hS rfl dX0_timesIn16_8 ?_
  refine lv_icmp_lt (tgt := 16) hx hb dX0_timesIn16_9 (by decide) (fun _ => ?_) (fun c_9 => absurd ((nI_ltI (a := mm) (b := 5) (by omega) (by omega)).mpr (by omega)) c_9)
  refine va_gets (A := zF) hx hb hX.1 hS hown (hts (.fieldLink RX0 7 "RoyalUrTable$Dice" "TIMES_IN_16" "[I") (List.mem_of_getElem? (i := 1) rfl)) (fun _ h9 => h9) dX0_timesIn16_16 ?_
  refine lv_iload_n hx hb dX0_timesIn16_19 rfl (lv_at hl 0 rfl) ?_
  refine va_ti (v := .int (nI (ztm mm))) hx hb hX.2 hS (vp_in_nI (n := mm) (by omega) (by decide)) (by rw [nI_clamp (by omega)]; rfl) dX0_timesIn16_20 ?_
  exact W.iret (v := nI (ztm mm)) hx hb hr (fun t ht hW => ⟨⟨_, (), rfl, rfl, trivial⟩, hS.F ht⟩) hS.2.2 dX0_timesIn16_21

set_option maxHeartbeats 4000000 in
set_option maxRecDepth 100000 in
theorem c_X5_refuseOutside (l : Launch) (hl0 : l.stackTraces = false) (v lo hi : Int32) : vx_Met l yX5_refuseOutside wsX5_refuseOutside ({ frames := 6, cells := 1, slots := 6, locals := 90 }) (va_Pc [.int v, .int lo, .int hi] (fun U => zY zF U U.heap)) (va_Qv (fun (_ : Unit) => lo ≤ v ∧ v ≤ hi) (fun _ _ => True) zF) (vx_X (fun (_ : Unit) => ¬ (lo ≤ v ∧ v ≤ hi)) (fun E _ _ => E = "java/lang/IllegalArgumentException") zF) 1 6 zF := by
  refine vx_ofW (cc := cX5_refuseOutside) (maxL := 3) (ret := none) (by decide) rfl ?_
  intro p e s m args below meth c s₁ B hml hnt hv
  obtain ⟨rfl, hY⟩ := hv
  have hx := B.exec
  have hb := B.bytes
  have hr := B.returns
  have hts := atoms_spec (ws := wsX5_refuseOutside) B.pre
  have hown : s.vm.findClass RX5 = some m.cls := findClass_of_methodNamed B.named
  have hlocks := B.notSynchronized
  have hl := lv_entry ([.int v, .int lo, .int hi]) (n := 3) (Nat.le_of_ble_eq_true rfl)
  rw [lg_entry_eq]
  generalize (lg_sl ([.int v, .int lo, .int hi]) ++ List.replicate (3 - (lg_sl ([.int v, .int lo, .int hi])).length) Slot.unset).toArray = ls at hl ⊢
  have hl : lv_has ls 3 [(0, .int v), (1, .int lo), (2, .int hi)] := hl
  have hS : va_S zF s.heap s.heap [] := va_S.rf
  have hl9 := hl.1.trans hml.symm
  refine lv_iload_n hx hb dX5_refuseOutside_0 rfl (lv_at hl 0 rfl) ?_
  refine lv_iload_n hx hb dX5_refuseOutside_1 rfl (lv_at hl 1 rfl) ?_
  refine lv_icmp_lt (tgt := 10) hx hb dX5_refuseOutside_2 (by decide) (fun c_2 => ?_) (fun c_2 => ?_)
  · refine vx_throw0 (cls := "java/lang/IllegalArgumentException") (names := ["java/lang/RuntimeException", "java/lang/Exception"]) (ik := 108) (ic := 110) (A := zF) hx hb hl0 hown (by decide +kernel) (by decide +kernel) (hts (.classLink RX5 108 "java/lang/IllegalArgumentException") (List.mem_of_getElem? (i := 1) rfl)) (hts (.initialized "java/lang/IllegalArgumentException") (List.mem_of_getElem? (i := 2) rfl)) (vx_hat (fun w h => hts w (List.mem_cons_of_mem _ (List.mem_append_right _ h))) (by decide +kernel) (vx_c (va_Nw.use rfl hY.2.2.1) (vx_c (va_Nw.use rfl hY.2.2.2.1) (vx_c (va_Nw.use rfl hY.2.2.2.2.1) (vx_c (va_Nw.use rfl hY.2.2.2.2.2.1) vx_n))))) (by decide +kernel) hY.1 hY.2.1 hS hl9 dX5_refuseOutside_10 dX5_refuseOutside_13 dX5_refuseOutside_14 dX5_refuseOutside_17 (fun x hx9 => (hnt x hx9).elim) (Nat.le_of_ble_eq_true rfl) (Nat.le_of_ble_eq_true rfl) (Nat.le_of_ble_eq_true rfl) (Nat.le_of_ble_eq_true rfl) hlocks (fun t hv hz hk => ⟨(), (fun h => absurd c_2 (Int32.not_lt.mpr h.1)), rfl, hz, fun q hq _ => hk q hq⟩) (fun z hz => by cases hz) (Nat.le_refl _) (Nat.le_refl _)
  · refine lv_iload_n hx hb dX5_refuseOutside_5 rfl (lv_at hl 0 rfl) ?_
    refine lv_iload_n hx hb dX5_refuseOutside_6 rfl (lv_at hl 2 rfl) ?_
    refine lv_icmp_le (tgt := 18) hx hb dX5_refuseOutside_7 (by decide) (fun c_7 => ?_) (fun c_7 => ?_)
    · refine vx_ret (mc := 1) (ms := 6) ?_
      refine W.widen (k := 1) (n := 6) (Nat.le_of_ble_eq_true rfl) (Nat.le_of_ble_eq_true rfl) ?_
      exact W.vret hx hb hr (fun t ht hW => ⟨⟨(), rfl, ⟨Int32.not_lt.mp c_2, c_7⟩, trivial⟩, hS.F ht⟩) hS.2.2 dX5_refuseOutside_18
    · refine vx_throw0 (cls := "java/lang/IllegalArgumentException") (names := ["java/lang/RuntimeException", "java/lang/Exception"]) (ik := 108) (ic := 110) (A := zF) hx hb hl0 hown (by decide +kernel) (by decide +kernel) (hts (.classLink RX5 108 "java/lang/IllegalArgumentException") (List.mem_of_getElem? (i := 1) rfl)) (hts (.initialized "java/lang/IllegalArgumentException") (List.mem_of_getElem? (i := 2) rfl)) (vx_hat (fun w h => hts w (List.mem_cons_of_mem _ (List.mem_append_right _ h))) (by decide +kernel) (vx_c (va_Nw.use rfl hY.2.2.1) (vx_c (va_Nw.use rfl hY.2.2.2.1) (vx_c (va_Nw.use rfl hY.2.2.2.2.1) (vx_c (va_Nw.use rfl hY.2.2.2.2.2.1) vx_n))))) (by decide +kernel) hY.1 hY.2.1 hS hl9 dX5_refuseOutside_10 dX5_refuseOutside_13 dX5_refuseOutside_14 dX5_refuseOutside_17 (fun x hx9 => (hnt x hx9).elim) (Nat.le_of_ble_eq_true rfl) (Nat.le_of_ble_eq_true rfl) (Nat.le_of_ble_eq_true rfl) (Nat.le_of_ble_eq_true rfl) hlocks (fun t hv hz hk => ⟨(), (fun h => absurd h.2 c_7), rfl, hz, fun q hq _ => hk q hq⟩) (fun z hz => by cases hz) (Nat.le_refl _) (Nat.le_refl _)
end
section
/-! What the game's worths are, in natural numbers, and what a move does to the digits. -/
def zsm (f : Nat → Nat) : Nat → Nat
  | 0 => 0
  | k + 1 => zsm f k + ztm k * f k
theorem zsm_le {f : Nat → Nat} (h : ∀ m, m ≤ 4 → f m ≤ 1000000000) : ∀ k, k ≤ 5 → zsm f k ≤ 16000000000 := by
  have h0 := h 0 (by omega)
  have h1 := h 1 (by omega)
  have h2 := h 2 (by omega)
  have h3 := h 3 (by omega)
  have h4 := h 4 (by omega)
  intro k hk
  obtain rfl | rfl | rfl | rfl | rfl | rfl : k = 0 ∨ k = 1 ∨ k = 2 ∨ k = 3 ∨ k = 4 ∨ k = 5 := by omega
  all_goals (simp [zsm, ztm]; try omega)
theorem zsm_div {f : Nat → Nat} (h : ∀ m, m ≤ 4 → f m ≤ 1000000000) : zsm f 5 / 16 ≤ 1000000000 := by
  have := zsm_le h 5 (by omega)
  omega
theorem ztm_le (m : Nat) : ztm m ≤ 6 := by
  unfold ztm
  repeat' split
  all_goals omega
/-- endings: behind a throw, by the worths to throw of a round less -/
def zEB (V : Nat → Nat → Nat) (own oth m : Nat) : Nat :=
  if m = 0 then 1000000000 - V oth own
  else if zcen (own + m) false (oth == own + m) = false then 1000000000 - V oth own
  else if own + m = 15 then 1000000000
  else if zros (own + m) = true then V (own + m) (if oth = own + m ∧ zshr (own + m) = true then 0 else oth)
  else 1000000000 - V (if oth = own + m ∧ zshr (own + m) = true then 0 else oth) (own + m)
def zE : Nat → Nat → Nat → Nat
  | 0, _, _ => 500000000
  | r + 1, own, oth => zsm (zEB (zE r) own oth) 5 / 16
theorem zEB_le {V : Nat → Nat → Nat} (h : ∀ a b, V a b ≤ 1000000000) (own oth m : Nat) : zEB V own oth m ≤ 1000000000 := by
  unfold zEB
  repeat' split
  all_goals first | omega | exact h _ _
theorem zE_le : ∀ r own oth, zE r own oth ≤ 1000000000 := by
  intro r
  induction r with
  | zero => intro _ _; show 500000000 ≤ 1000000000; omega
  | succ r ih => intro own oth; exact zsm_div (fun m _ => zEB_le ih own oth m)
/-- the worth without looking ahead, of positions of k pieces each -/
def zLf (k own oth : Nat) : Nat :=
  if dg own 15 = k - 1 ∧ dg oth 15 = k - 1 then zE 40 (zfs own 0 15) (zfs oth 0 15)
  else min (max (500000000 + 4000000 * psum own 16 - 4000000 * psum oth 16) 1) 999999999
/-- is there a move among the first j places; the greatest of g over them -/
def zHas (own oth m : Nat) : Nat → Bool
  | 0 => false
  | j + 1 => zHas own oth m j || zcm own oth j m
def zBst (g : Nat → Nat) (own oth m : Nat) : Nat → Nat
  | 0 => 0
  | j + 1 => if zcm own oth j m = true then max (zBst g own oth m j) (g j) else zBst g own oth m j
def zNum (own oth m : Nat) : Nat → Nat
  | 0 => 0
  | j + 1 => zNum own oth m j + (if zcm own oth j m = true then 1 else 0)
/-- behind a move -/
def zBM (V : Nat → Nat → Nat) (own oth fr m : Nat) : Nat :=
  if zhome (zsh own fr (fr + m)) = true then 1000000000
  else if zros (fr + m) = true then V (zsh own fr (fr + m)) (if ztk oth (fr + m) = true then zsh oth (fr + m) 0 else oth)
  else 1000000000 - V (if ztk oth (fr + m) = true then zsh oth (fr + m) 0 else oth) (zsh own fr (fr + m))
/-- behind a throw -/
def zBT (V : Nat → Nat → Nat) (own oth m : Nat) : Nat :=
  if zHas own oth m 15 = true then zBst (fun fr => zBM V own oth fr m) own oth m 15 else 1000000000 - V oth own
/-- to throw, with a depth -/
def zV (k : Nat) : Nat → Nat → Nat → Nat
  | 0, own, oth => zLf k own oth
  | d + 1, own, oth => zsm (zBT (zV k d) own oth) 5 / 16
theorem zLf_le (k own oth : Nat) : zLf k own oth ≤ 1000000000 := by
  unfold zLf
  split
  · exact zE_le _ _ _
  · omega
theorem zBM_le {V : Nat → Nat → Nat} (h : ∀ a b, V a b ≤ 1000000000) (own oth fr m : Nat) : zBM V own oth fr m ≤ 1000000000 := by
  unfold zBM
  split
  · exact Nat.le_refl _
  · split
    · exact h _ _
    · omega
theorem zBst_le {g : Nat → Nat} (h : ∀ a, g a ≤ 1000000000) (own oth m : Nat) : ∀ j, zBst g own oth m j ≤ 1000000000 := by
  intro j
  induction j with
  | zero => exact Nat.zero_le _
  | succ j ih =>
    show (if _ then _ else _) ≤ _
    split
    · exact Nat.max_le.mpr ⟨ih, h j⟩
    · exact ih
theorem zBT_le {V : Nat → Nat → Nat} (h : ∀ a b, V a b ≤ 1000000000) (own oth m : Nat) : zBT V own oth m ≤ 1000000000 := by
  unfold zBT
  split
  · exact zBst_le (fun a => zBM_le h _ _ _ _) _ _ _ _
  · omega
theorem zV_le (k : Nat) : ∀ d own oth, zV k d own oth ≤ 1000000000 := by
  intro d
  induction d with
  | zero => intro own oth; exact zLf_le _ _ _
  | succ d ih => intro own oth; exact zsm_div (fun m _ => zBT_le ih own oth m)
/-! digits under a move -/
theorem dg_low {n a p : Nat} (h : p < a) : n % 16 ^ a / 16 ^ p % 16 = dg n p := by
  have e : (16 : Nat) ^ a = 16 ^ p * 16 ^ (a - p) := by rw [← Nat.pow_add]; congr 1; omega
  rw [e, Nat.mod_mul_right_div_self, dg]
  exact Nat.mod_mod_of_dvd _ ⟨16 ^ (a - p - 1), by rw [← Nat.pow_succ']; congr 1; omega⟩
theorem dg_high {n a p : Nat} (h : a < p) : dg n p = n / 16 ^ a / 16 / 16 ^ (p - a - 1) % 16 := by
  rw [dg, Nat.div_div_eq_div_mul, Nat.div_div_eq_div_mul]
  congr 2
  rw [← Nat.pow_succ', ← Nat.pow_add]
  congr 1
  omega
theorem dg_sub {n a : Nat} (h : 0 < dg n a) (p : Nat) : dg (n - 16 ^ a) p = dg n p - (if p = a then 1 else 0) := by
  have hpos : 0 < (16 : Nat) ^ a := Nat.pow_pos (by decide)
  have hq : 1 ≤ n / 16 ^ a % 16 := h
  have hle : 16 ^ a ≤ n := by
    rcases Nat.lt_or_ge n (16 ^ a) with h1 | h1
    · rw [Nat.div_eq_of_lt h1] at hq; omega
    · exact h1
  have e1 : (n - 16 ^ a) % 16 ^ a = n % 16 ^ a := by
    have := Nat.add_mod_right (n - 16 ^ a) (16 ^ a)
    rw [Nat.sub_add_cancel hle] at this
    exact this.symm
  have e2 : (n - 16 ^ a) / 16 ^ a = n / 16 ^ a - 1 := by
    have := Nat.add_div_right (n - 16 ^ a) hpos
    rw [Nat.sub_add_cancel hle] at this
    rw [this, Nat.add_sub_cancel]
  rcases Nat.lt_trichotomy p a with hp | hp | hp
  · rw [if_neg (by omega), Nat.sub_zero, ← dg_low hp, e1, dg_low hp]
  · subst hp
    rw [if_pos rfl]
    show (n - 16 ^ p) / 16 ^ p % 16 = n / 16 ^ p % 16 - 1
    rw [e2]
    generalize n / 16 ^ p = q at hq ⊢
    omega
  · have e3 : (n / 16 ^ a - 1) / 16 = n / 16 ^ a / 16 := by
      generalize n / 16 ^ a = q at hq ⊢
      omega
    rw [if_neg (by omega), Nat.sub_zero, dg_high hp, dg_high hp, e2, e3]
theorem dg_add {n b : Nat} (h : dg n b < 15) (p : Nat) : dg (n + 16 ^ b) p = dg n p + (if p = b then 1 else 0) := by
  have hpos : 0 < (16 : Nat) ^ b := Nat.pow_pos (by decide)
  have hq : n / 16 ^ b % 16 < 15 := h
  have e1 : (n + 16 ^ b) % 16 ^ b = n % 16 ^ b := Nat.add_mod_right _ _
  have e2 : (n + 16 ^ b) / 16 ^ b = n / 16 ^ b + 1 := Nat.add_div_right _ hpos
  rcases Nat.lt_trichotomy p b with hp | hp | hp
  · rw [if_neg (by omega), Nat.add_zero, ← dg_low hp, e1, dg_low hp]
  · subst hp
    rw [if_pos rfl]
    show (n + 16 ^ p) / 16 ^ p % 16 = n / 16 ^ p % 16 + 1
    rw [e2]
    generalize n / 16 ^ p = q at hq ⊢
    omega
  · have e3 : (n / 16 ^ b + 1) / 16 = n / 16 ^ b / 16 := by
      generalize n / 16 ^ b = q at hq ⊢
      omega
    rw [if_neg (by omega), Nat.add_zero, dg_high hp, dg_high hp, e2, e3]
theorem dg_sh {n a b : Nat} (ha : 0 < dg n a) (hb : dg n b < 15) (hab : a ≠ b) (p : Nat) : dg (zsh n a b) p = dg n p - (if p = a then 1 else 0) + (if p = b then 1 else 0) := by
  have h1 : dg (n - 16 ^ a) b < 15 := by rw [dg_sub ha, if_neg (fun e => hab e.symm)]; omega
  rw [zsh, dg_add h1, dg_sub ha]
theorem dg_le {n a : Nat} (h : 0 < dg n a) : 16 ^ a ≤ n := by
  rcases Nat.lt_or_ge n (16 ^ a) with h1 | h1
  · rw [dg, Nat.div_eq_of_lt h1] at h; exact absurd h (by decide)
  · exact h1
/-- a layout of k pieces -/
def zok (k n : Nat) : Prop := k ≤ 4 ∧ n < 16 ^ 16 ∧ dsum n 16 = k
theorem dsum_mono (n : Nat) : ∀ j p, p < j → dg n p ≤ dsum n j := by
  intro j
  induction j with
  | zero => intro p hp; omega
  | succ j ih =>
    intro p hp
    show _ ≤ dsum n j + dg n j
    rcases Nat.lt_or_ge p j with h | h
    · have := ih p h; omega
    · rw [show p = j by omega]; omega
theorem psum_dsum (n : Nat) : ∀ j, j ≤ 16 → psum n j ≤ 15 * dsum n j := by
  intro j
  induction j with
  | zero => intro _; exact Nat.le_refl _
  | succ j ih =>
    intro hj
    have h1 := ih (by omega)
    have h2 : j * dg n j ≤ 15 * dg n j := Nat.mul_le_mul_right _ (by omega)
    show psum n j + j * dg n j ≤ 15 * (dsum n j + dg n j)
    rw [Nat.mul_add]
    omega
theorem zok_dg {k n : Nat} (h : zok k n) (p : Nat) (hp : p ≤ 15) : dg n p ≤ 4 := by
  have := dsum_mono n 16 p (by omega)
  rw [h.2.2] at this
  have := h.1
  omega
theorem zok.ps {k n : Nat} (h : zok k n) : psum n 16 ≤ 60 := by
  have := psum_dsum n 16 (by omega)
  rw [h.2.2] at this
  have := h.1
  omega
theorem zok.lt {k n : Nat} (h : zok k n) : n < 2 ^ 63 := by
  have h1 := zok_dg h 15 (by omega)
  have h2 := h.2.1
  have h3 : n / 16 ^ 15 % 16 ≤ 4 := h1
  omega
theorem dsum_sh {n a b : Nat} (ha : 0 < dg n a) (hb : dg n b < 15) (hab : a ≠ b) : ∀ j, dsum (zsh n a b) j + (if a < j then 1 else 0) = dsum n j + (if b < j then 1 else 0) := by
  intro j
  induction j with
  | zero => rfl
  | succ j ih =>
    show dsum (zsh n a b) j + dg (zsh n a b) j + _ = dsum n j + dg n j + _
    rw [dg_sh ha hb hab]
    by_cases h1 : j = a
    · subst h1
      rw [if_pos rfl, if_neg hab, if_pos (by omega)]
      rw [if_neg (by omega)] at ih
      by_cases h2 : b < j
      · rw [if_pos h2] at ih; rw [if_pos (by omega)]; omega
      · rw [if_neg h2] at ih; rw [if_neg (by omega)]; omega
    · by_cases h3 : j = b
      · subst h3
        rw [if_neg (fun e => hab e.symm), if_pos rfl, if_pos (show j < j + 1 by omega)]
        rw [if_neg (show ¬ j < j by omega)] at ih
        by_cases h2 : a < j
        · rw [if_pos h2] at ih; rw [if_pos (by omega)]; omega
        · rw [if_neg h2] at ih; rw [if_neg (by omega)]; omega
      · rw [if_neg h1, if_neg h3]
        have e1 : (a < j + 1) = (a < j) := by apply propext; omega
        have e2 : (b < j + 1) = (b < j) := by apply propext; omega
        simp only [e1, e2]
        omega
theorem psum_sh {n a b : Nat} (ha : 0 < dg n a) (hb : dg n b < 15) (hab : a ≠ b) : ∀ j, psum (zsh n a b) j + (if a < j then a else 0) = psum n j + (if b < j then b else 0) := by
  intro j
  induction j with
  | zero => rfl
  | succ j ih =>
    show psum (zsh n a b) j + j * dg (zsh n a b) j + _ = psum n j + j * dg n j + _
    rw [dg_sh ha hb hab]
    by_cases h1 : j = a
    · subst h1
      rw [if_pos rfl, if_neg hab, if_pos (by omega)]
      rw [if_neg (by omega)] at ih
      have e : j * (dg n j - 1 + 0) + j = j * dg n j := by rw [Nat.add_zero, ← Nat.mul_succ]; congr 1; omega
      by_cases h2 : b < j
      · rw [if_pos h2] at ih; rw [if_pos (by omega)]; omega
      · rw [if_neg h2] at ih; rw [if_neg (by omega)]; omega
    · by_cases h3 : j = b
      · subst h3
        rw [if_neg (fun e => hab e.symm), if_pos rfl, if_pos (show j < j + 1 by omega)]
        rw [if_neg (show ¬ j < j by omega)] at ih
        have e : j * (dg n j - 0 + 1) = j * dg n j + j := by rw [Nat.sub_zero, Nat.mul_succ]
        by_cases h2 : a < j
        · rw [if_pos h2] at ih; rw [if_pos (by omega)]; omega
        · rw [if_neg h2] at ih; rw [if_neg (by omega)]; omega
      · rw [if_neg h1, if_neg h3]
        have e1 : (a < j + 1) = (a < j) := by apply propext; omega
        have e2 : (b < j + 1) = (b < j) := by apply propext; omega
        simp only [e1, e2, Nat.sub_zero, Nat.add_zero]
        omega
theorem zsh_lt {n a b : Nat} (ha : 0 < dg n a) (h : n < 16 ^ 16) (hbd : dg n b < 15) (hab : a ≠ b) (hb : b ≤ 15) : zsh n a b < 16 ^ 16 := by
  have h1 := dg_le ha
  rcases Nat.lt_or_ge (zsh n a b) (16 ^ 16) with h2 | h2
  · exact h2
  · exfalso
    have h3 : zsh n a b < 2 * 16 ^ 16 := by
      have : (16 : Nat) ^ b ≤ 16 ^ 16 := Nat.pow_le_pow_right (by decide) (by omega)
      have h7 := Nat.sub_le n (16 ^ a)
      unfold zsh
      omega
    have h4 := dg_sh ha hbd hab 16
    have h5 : dg n 16 = 0 := by rw [dg, Nat.div_eq_of_lt h]
    rw [h5, if_neg (show ¬ 16 = b by omega)] at h4
    have h6 : dg (zsh n a b) 16 = 1 := by
      rw [dg]
      have : zsh n a b / 16 ^ 16 = 1 := by omega
      rw [this]
    rw [h6] at h4
    omega
theorem zok_sh {k n a b : Nat} (h : zok k n) (ha : 0 < dg n a) (hal : a ≤ 15) (hb : b ≤ 15) (hab : a ≠ b) : zok k (zsh n a b) := by
  have hbd : dg n b < 15 := by have := zok_dg h b hb; omega
  refine ⟨h.1, zsh_lt ha h.2.1 hbd hab hb, ?_⟩
  have := dsum_sh ha hbd hab 16
  rw [if_pos (by omega), if_pos (by omega)] at this
  have := h.2.2
  omega
theorem psum_shk {k n a b : Nat} (h : zok k n) (ha : 0 < dg n a) (hal : a ≤ 15) (hb : b ≤ 15) (hab : a ≠ b) : psum (zsh n a b) 16 + a = psum n 16 + b := by
  have hbd : dg n b < 15 := by have := zok_dg h b hb; omega
  have := psum_sh ha hbd hab 16
  rwa [if_pos (by omega), if_pos (by omega)] at this
/-- all home: no digit below place 15 -/
theorem dsum_mod (n : Nat) : ∀ j, n % 16 ^ j = 0 ↔ dsum n j = 0 := by
  intro j
  induction j with
  | zero => simp [dsum, Nat.mod_one]
  | succ j ih =>
    rw [Nat.mod_pow_succ]
    show _ ↔ dsum n j + dg n j = 0
    have hp : 0 < (16 : Nat) ^ j := Nat.pow_pos (by decide)
    constructor
    · intro h
      have h1 : n % 16 ^ j = 0 := by omega
      have h2 : 16 ^ j * (n / 16 ^ j % 16) = 0 := by omega
      have h3 : n / 16 ^ j % 16 = 0 := by
        rcases Nat.mul_eq_zero.mp h2 with e | e
        · omega
        · exact e
      have h4 := ih.mp h1
      show dsum n j + n / 16 ^ j % 16 = 0
      omega
    · intro h
      have h1 := ih.mpr (by omega)
      have h2 : n / 16 ^ j % 16 = 0 := by
        have : dg n j = 0 := by omega
        exact this
      rw [h1, h2, Nat.mul_zero]
theorem zhome_iff {k n : Nat} (h : zok k n) : zhome n = true ↔ dg n 15 = k := by
  have h1 : (2 : Nat) ^ 60 = 16 ^ 15 := by decide
  have h2 : dsum n 15 + dg n 15 = k := h.2.2
  rw [zhome, h1, beq_iff_eq, dsum_mod]
  omega
theorem zcm_spec {own oth fr m : Nat} (h : zcm own oth fr m = true) : 0 < m ∧ 0 < dg own fr ∧ fr + m ≤ 15 := by
  unfold zcm at h
  simp only [Bool.and_eq_true, decide_eq_true_eq] at h
  refine ⟨h.1.1, h.1.2, ?_⟩
  have h2 := h.2
  unfold zcen at h2
  split at h2
  · rw [beq_iff_eq] at h2; omega
  · omega
theorem ztk_spec {oth p : Nat} (h : ztk oth p = true) : 5 ≤ p ∧ p ≤ 12 ∧ 0 < dg oth p := by
  unfold ztk zshr at h
  simp only [Bool.and_eq_true, decide_eq_true_eq] at h
  exact ⟨h.1.1, h.1.2, h.2⟩
end
section
/-! the endings of the class: a table that is filled round by round -/
/-- the first k rounds stand in the table -/
def zTb (k : Nat) (wf : Nat → Int32) : Prop := ∀ r, 1 ≤ r → r ≤ k → ∀ own oth, own < 15 → oth < 15 → wf ((r - 1) * 225 + own * 15 + oth) = nI (zE r own oth)
theorem zTb.le {k j : Nat} {wf : Nat → Int32} (h : zTb k wf) (hj : j ≤ k) : zTb j wf := fun r h1 h2 => h r h1 (by omega)
theorem zsm_s (f : Nat → Nat) (i : Nat) : lN (zsm f i) + lN (ztm i) * lN (f i) = lN (zsm f (i + 1)) := by
  rw [lN_mul, lN_add]; rfl
theorem ztm_l (m : Nat) : (nI (ztm m)).toInt64 = lN (ztm m) := nI_l (by have := ztm_le m; omega)
theorem nI_lw {x : Nat} (h : x ≤ 1000000000) : (nI x).toInt64 = lN x := nI_l (by omega)
theorem zdiv16 {x : Nat} (h : x ≤ 16000000000) : lN x / 16 = lN (x / 16) := pk_lDiv (by omega) (by decide) (by decide)
theorem zsubW {x : Nat} (h : x ≤ 1000000000) : (1000000000 : Int32) - nI x = nI (1000000000 - x) := pk_sub h
theorem zcen_le {p : Nat} {o t : Bool} (h : zcen p o t = true) : p ≤ 15 := by
  unfold zcen at h
  split at h
  · rw [beq_iff_eq] at h; omega
  · omega
set_option maxHeartbeats 4000000 in
set_option maxRecDepth 100000 in
theorem c_X1_held (l : Launch) (dC : Nat → ClassId) (dI : Nat → Nat → Nat) (cyI cyJ : ClassId) (ae at_ : Nat) (rh : Int32) (wf : Nat → Int32) (k : Nat) (hk : k ≤ 60) (htb : zTb k wf) (own oth rr : Nat) (ho : own < 15) (ht9 : oth < 15) (hr9 : rr ≤ k) : Met l yX1_held wsX1_held ({ frames := 0, cells := 0, slots := 0, locals := 0 }) (zPc [.ref ae, .int (nI own), .int (nI oth), .int (nI rr)] (dC, dI) vwCl [(cyI, .int), (cyJ, .long)] [(ae, .inr (0, [.ref at_, .int rh])), (at_, .inl (cyI, 13500, .inl wf))] (fun _ => True)) (va_Qi (fun (r : Int32) (_ : Unit) => r = nI (zE rr own oth)) (fun _ _ => True) zF) 0 0 zF := by
  refine Met.ofW (cc := cX1_held) (maxL := 5) (ret := (some .int)) (by decide) rfl ?_
  intro p e s m args below meth c s₁ B hml hv
  obtain ⟨rfl, hP, hK, hX⟩ := hv
  have hx := B.exec
  have hb := B.bytes
  have hr := B.returns
  have hts := atoms_spec (ws := wsX1_held) B.pre
  have hown : s.vm.findClass RX1 = some m.cls := findClass_of_methodNamed B.named
  have hlocks := B.notSynchronized
  have hinX1 : ∀ w ∈ wsX10, w ∈ wsX1_held := by decide +kernel
  have hl := lv_entry ([.ref ae, .int (nI own), .int (nI oth), .int (nI rr)]) (n := 5) (Nat.le_of_ble_eq_true rfl)
  rw [lg_entry_eq]
  generalize (lg_sl ([.ref ae, .int (nI own), .int (nI oth), .int (nI rr)]) ++ List.replicate (5 - (lg_sl ([.ref ae, .int (nI own), .int (nI oth), .int (nI rr)])).length) Slot.unset).toArray = ls at hl ⊢
  have hl : lv_has ls 5 [(0, .ref ae), (1, .int (nI own)), (2, .int (nI oth)), (3, .int (nI rr))] := hl
  have hS : va_S zF s.heap s.heap [] := va_S.rf
  refine lv_iload_n hx hb dX1_held_0 rfl (lv_at hl 3 rfl) ?_
  refine lv_if_gt (tgt := 7) hx hb dX1_held_1 (by decide) (fun c_1 => ?_) (fun c_1 => ?_)
  · skip
    have c_1 : 0 < rr := (nI_ltI (a := 0) (b := rr) (by omega) (by omega)).mp c_1
    refine lv_iload_n hx hb dX1_held_7 rfl (lv_at hl 3 rfl) ?_
    refine lv_iconst (v := 1) hx hb dX1_held_8 (by decide) ?_
    refine lv_isub hx hb dX1_held_9 ?_
    refine zz_i (y := nI (rr - 1)) (pk_sub (a := rr) (b := 1) (by omega)) ?_
    refine lv_sipush (v := 225) hx hb dX1_held_10 (by decide) ?_
    refine lv_imul hx hb dX1_held_13 ?_
    refine zz_i (y := nI ((rr - 1) * 225)) (pk_mul (rr - 1) 225) ?_
    refine lv_iload_n hx hb dX1_held_14 rfl (lv_at hl 1 rfl) ?_
    refine lv_bipush (v := 15) hx hb dX1_held_15 (by decide) ?_
    refine lv_imul hx hb dX1_held_17 ?_
    refine zz_i (y := nI (own * 15)) (pk_mul own 15) ?_
    refine lv_iadd hx hb dX1_held_18 ?_
    refine zz_i (y := nI ((rr - 1) * 225 + own * 15)) (nI_add ((rr - 1) * 225) (own * 15)) ?_
    refine lv_iload_n hx hb dX1_held_19 rfl (lv_at hl 2 rfl) ?_
    refine lv_iadd hx hb dX1_held_20 ?_
    refine zz_i (y := nI ((rr - 1) * 225 + own * 15 + oth)) (nI_add ((rr - 1) * 225 + own * 15) oth) ?_
    refine lv_istore (lv' := [(4, .int (nI ((rr - 1) * 225 + own * 15 + oth))), (0, .ref ae), (1, .int (nI own)), (2, .int (nI oth)), (3, .int (nI rr))]) hx hb dX1_held_21 hl (by decide) rfl (fun ls hl => ?_)
    refine lv_iload hx hb dX1_held_23 (lv_at hl 0 rfl) ?_
    refine lv_if_lt (tgt := 38) hx hb dX1_held_25 (by decide) (fun c_25 => ?_) (fun c_25 => ?_)
    · skip
      have c_25 : ((rr - 1) * 225 + own * 15 + oth) < 0 := (nI_ltI (a := (rr - 1) * 225 + own * 15 + oth) (b := 0) (by omega) (by omega)).mp c_25
      exact absurd c_25 (Nat.not_lt_zero _)
    · skip
      have c_25 : ¬ ((rr - 1) * 225 + own * 15 + oth) < 0 := fun h9 => c_25 ((nI_ltI (a := (rr - 1) * 225 + own * 15 + oth) (b := 0) (by omega) (by omega)).mpr h9)
      refine lv_iload hx hb dX1_held_28 (lv_at hl 0 rfl) ?_
      refine lv_aload_n hx hb dX1_held_30 rfl (lv_at hl 1 rfl) ?_
      refine va_get (D := (dC, dI)) (ci := 0) (v := .ref at_) (C := RX1) (T := TX1) (N := 2) hx hb hts hinX1 hown hK hP 0 rfl rfl 0 (by decide) (hts (.fieldLink RX1 13 "RoyalUrTable$Endings" "worths" "[I") (List.mem_of_getElem? (i := 2) rfl)) (fun _ h9 => h9) rfl dX1_held_31 ?_
      refine va_alen (v := 13500) hx hb hK hP 1 0 rfl rfl rfl dX1_held_34 ?_
      refine lv_icmp_lt (tgt := 43) hx hb dX1_held_35 (by decide) (fun c_35 => ?_) (fun c_35 => ?_)
      · skip
        have c_35 : ((rr - 1) * 225 + own * 15 + oth) < 13500 := (nI_ltI (a := (rr - 1) * 225 + own * 15 + oth) (b := 13500) (by omega) (by omega)).mp c_35
        refine lv_aload_n hx hb dX1_held_43 rfl (lv_at hl 1 rfl) ?_
        refine va_get (D := (dC, dI)) (ci := 0) (v := .ref at_) (C := RX1) (T := TX1) (N := 2) hx hb hts hinX1 hown hK hP 0 rfl rfl 0 (by decide) (hts (.fieldLink RX1 13 "RoyalUrTable$Endings" "worths" "[I") (List.mem_of_getElem? (i := 2) rfl)) (fun _ h9 => h9) rfl dX1_held_44 ?_
        refine lv_iload hx hb dX1_held_47 (lv_at hl 0 rfl) ?_
        refine zi_iald hx hb hK hP 1 0 rfl rfl (j := (rr - 1) * 225 + own * 15 + oth) rfl (by omega) (by decide) dX1_held_49 ?_
        exact W.iret (v := wf ((rr - 1) * 225 + own * 15 + oth)) hx hb hr (fun t ht hW => ⟨⟨_, (), rfl, (htb rr (by omega) (by omega) own oth ho ht9), trivial⟩, hS.F ht⟩) hS.2.2 dX1_held_50
      · skip
        have c_35 : ¬ ((rr - 1) * 225 + own * 15 + oth) < 13500 := fun h9 => c_35 ((nI_ltI (a := (rr - 1) * 225 + own * 15 + oth) (b := 13500) (by omega) (by omega)).mpr h9)
        exact absurd (by omega) c_35
  · skip
    have c_1 : ¬ 0 < rr := fun h9 => c_1 ((nI_ltI (a := 0) (b := rr) (by omega) (by omega)).mpr h9)
    refine lv_ldc (v := 500000000) hx hb hown (hts (.constant RX1 31 (500000000)) (List.mem_of_getElem? (i := 1) rfl)) dX1_held_4 ?_
    exact W.iret (v := 500000000) hx hb hr (fun t ht hW => ⟨⟨_, (), rfl, (by rw [show rr = 0 by omega]; rfl), trivial⟩, hS.F ht⟩) hS.2.2 dX1_held_6

set_option maxHeartbeats 4000000 in
set_option maxRecDepth 100000 in
theorem c_X1_worthBehindThrow0 (l : Launch) (dC : Nat → ClassId) (dI : Nat → Nat → Nat) (cyI cyJ : ClassId) (tb : Nat) (ae at_ : Nat) (rh : Int32) (wf : Nat → Int32) (k : Nat) (hk : k ≤ 60) (htb : zTb k wf) (rt j : Nat) (hj : rt ≤ k) (hj2 : j ≤ 100) (hT : ∀ own oth : Nat, own < 15 → oth < 15 → Met l yX1_worthToThrow wsX1_worthToThrow ({ frames := 2 * j + 1, cells := 0, slots := 0, locals := 54 * j + 24 }) (zPc [.ref ae, .int (nI own), .int (nI oth), .int (nI (rt + j)), .int (nI rt)] (dC, dI) vwCl [(cyI, .int), (cyJ, .long)] [(ae, .inr (0, [.ref at_, .int rh])), (at_, .inl (cyI, 13500, .inl wf))] (fun U => zX tb zF U U.heap)) (va_Qi (fun (r : Int32) (_ : Unit) => r = nI (zE (rt + j) own oth)) (fun _ _ => True) zF) 0 0 zF) (own oth mm : Nat) (ho : own < 15) (ht9 : oth < 15) (hmm : mm ≤ 4) : Met l yX1_worthBehindThrow wsX1_worthBehindThrow ({ frames := 2 * j + 2, cells := 0, slots := 0, locals := 54 * j + 51 }) (zPc [.ref ae, .int (nI own), .int (nI oth), .int (nI mm), .int (nI (rt + j)), .int (nI rt)] (dC, dI) vwCl [(cyI, .int), (cyJ, .long)] [(ae, .inr (0, [.ref at_, .int rh])), (at_, .inl (cyI, 13500, .inl wf))] (fun U => zX tb zF U U.heap)) (va_Qi (fun (r : Int32) (_ : Unit) => r = nI (zEB (zE (rt + j)) own oth mm)) (fun _ _ => True) zF) 0 0 zF := by
  refine Met.ofW (cc := cX1_worthBehindThrow) (maxL := 8) (ret := (some .int)) (by decide) rfl ?_
  intro p e s m args below meth c s₁ B hml hv
  obtain ⟨rfl, hP, hK, hX⟩ := hv
  have hx := B.exec
  have hb := B.bytes
  have hr := B.returns
  have hts := atoms_spec (ws := wsX1_worthBehindThrow) B.pre
  have hown : s.vm.findClass RX1 = some m.cls := findClass_of_methodNamed B.named
  have hlocks := B.notSynchronized
  have hl := lv_entry ([.ref ae, .int (nI own), .int (nI oth), .int (nI mm), .int (nI (rt + j)), .int (nI rt)]) (n := 8) (Nat.le_of_ble_eq_true rfl)
  rw [lg_entry_eq]
  generalize (lg_sl ([.ref ae, .int (nI own), .int (nI oth), .int (nI mm), .int (nI (rt + j)), .int (nI rt)]) ++ List.replicate (8 - (lg_sl ([.ref ae, .int (nI own), .int (nI oth), .int (nI mm), .int (nI (rt + j)), .int (nI rt)])).length) Slot.unset).toArray = ls at hl ⊢
  have hl : lv_has ls 8 [(0, .ref ae), (1, .int (nI own)), (2, .int (nI oth)), (3, .int (nI mm)), (4, .int (nI (rt + j))), (5, .int (nI rt))] := hl
  have hS : va_S zF s.heap s.heap [] := va_S.rf
  refine lv_iload_n hx hb dX1_worthBehindThrow_0 rfl (lv_at hl 1 rfl) ?_
  refine lv_iload_n hx hb dX1_worthBehindThrow_1 rfl (lv_at hl 3 rfl) ?_
  refine lv_iadd hx hb dX1_worthBehindThrow_2 ?_
  refine zz_i (y := nI (own + mm)) (nI_add own mm) ?_
  refine lv_istore (lv' := [(6, .int (nI (own + mm))), (0, .ref ae), (1, .int (nI own)), (2, .int (nI oth)), (3, .int (nI mm)), (4, .int (nI (rt + j))), (5, .int (nI rt))]) hx hb dX1_worthBehindThrow_3 hl (by decide) rfl (fun ls hl => ?_)
  refine lv_iload_n hx hb dX1_worthBehindThrow_5 rfl (lv_at hl 4 rfl) ?_
  refine lv_if_eq (tgt := 29) hx hb dX1_worthBehindThrow_6 (by decide) (fun c_6 => ?_) (fun c_6 => ?_)
  · skip
    have c_6 : mm = 0 := (nI_eq (a := mm) (b := 0) (by omega) (by omega)).mp c_6
    refine lv_ldc (v := 1000000000) hx hb hown (hts (.constant RX1 56 (1000000000)) (List.mem_of_getElem? (i := 1) rfl)) dX1_worthBehindThrow_29 ?_
    refine lv_aload_n hx hb dX1_worthBehindThrow_31 rfl (lv_at hl 1 rfl) ?_
    refine lv_iload_n hx hb dX1_worthBehindThrow_32 rfl (lv_at hl 3 rfl) ?_
    refine lv_iload_n hx hb dX1_worthBehindThrow_33 rfl (lv_at hl 2 rfl) ?_
    refine lv_iload hx hb dX1_worthBehindThrow_34 (lv_at hl 5 rfl) ?_
    refine lv_iload hx hb dX1_worthBehindThrow_36 (lv_at hl 6 rfl) ?_
    refine zro_i (va_runV (As := [.int (nI oth), .int (nI own), .int (nI (rt + j)), .int (nI rt)]) (rest := [.int 1000000000]) ⟨hx, hb, hml, hown, hts⟩ (hT oth own (by omega) (by omega)) (cwV 4 hts gX1_worthBehindThrow_X1_worthToThrow rfl rfl rfl (by decide +kernel) ⟨(show (2 * j + 1) + 1 ≤ 2 * j + 2 by omega), (show 8 + (8 + 11) + (54 * j + 24) ≤ 54 * j + 51 by omega)⟩) (zPc_V (ci := 0) (q0 := 0) zB_X hP hK rfl rfl [0, 1] rfl (zX_at hX hS zF_A)) rfl rfl hl.1 rfl (lv_room (Nat.le_of_ble_eq_true rfl)) dX1_worthBehindThrow_38 ⟨Nat.zero_le _, Nat.zero_le _⟩) hP hS (fun H locs hP hS => ?_)
    have hle_38 := zE_le (rt + j) oth own
    refine lv_isub hx hb dX1_worthBehindThrow_41 ?_
    refine zz_i (y := nI (1000000000 - (zE (rt + j) oth own))) (pk_sub (a := 1000000000) (b := zE (rt + j) oth own) (by omega)) ?_
    exact W.iret (v := nI (1000000000 - (zE (rt + j) oth own))) hx hb hr (fun t ht hW => ⟨⟨_, (), rfl, (congrArg nI (by rw [zEB, if_pos c_6])), trivial⟩, hS.F ht⟩) hS.2.2 dX1_worthBehindThrow_42
  · skip
    have c_6 : ¬ mm = 0 := fun h9 => c_6 ((nI_eq (a := mm) (b := 0) (by omega) (by omega)).mpr h9)
    refine lv_iload hx hb dX1_worthBehindThrow_9 (lv_at hl 0 rfl) ?_
    refine lv_iconst (v := 0) hx hb dX1_worthBehindThrow_11 (by decide) ?_
    refine lv_iload_n hx hb dX1_worthBehindThrow_12 rfl (lv_at hl 3 rfl) ?_
    refine lv_iload hx hb dX1_worthBehindThrow_13 (lv_at hl 0 rfl) ?_
    refine lv_icmp_ne (tgt := 22) hx hb dX1_worthBehindThrow_15 (by decide) (fun c_15 => ?_) (fun c_15 => ?_)
    · skip
      have c_15 : ¬ oth = (own + mm) := fun h9 => c_15 ((nI_eq (a := oth) (b := own + mm) (by omega) (by omega)).mpr h9)
      refine lv_iconst (v := 0) hx hb dX1_worthBehindThrow_22 (by decide) ?_
      refine zro_i (va_runS (As := [.int (nI (own + mm)), .int 0, .int 0]) (rest := []) ⟨hx, hb, hml, hown, hts⟩ (c_X4_canEnter l (own + mm) (by omega) false false) (va_cwS 3 hts gX1_worthBehindThrow_X4_canEnter rfl rfl rfl (by decide +kernel) ⟨(show 0 + 1 ≤ 2 * j + 2 by omega), (show 8 + (3 + 11) + 0 ≤ 54 * j + 51 by omega)⟩) zPu rfl rfl hl.1 rfl (lv_room (Nat.le_of_ble_eq_true rfl)) dX1_worthBehindThrow_23 ⟨Nat.zero_le _, Nat.zero_le _⟩) hP hS (fun H locs hP hS => ?_)
      refine lv_if_ne (tgt := 43) hx hb dX1_worthBehindThrow_26 (by decide) (fun c_26 => ?_) (fun c_26 => ?_)
      · skip
        have c_26 := bI_1.mp c_26
        have hcl := zcen_le c_26
        refine lv_iload hx hb dX1_worthBehindThrow_43 (lv_at hl 0 rfl) ?_
        refine lv_bipush (v := 15) hx hb dX1_worthBehindThrow_45 (by decide) ?_
        refine lv_icmp_ne (tgt := 53) hx hb dX1_worthBehindThrow_47 (by decide) (fun c_47 => ?_) (fun c_47 => ?_)
        · skip
          have c_47 : ¬ (own + mm) = 15 := fun h9 => c_47 ((nI_eq (a := own + mm) (b := 15) (by omega) (by omega)).mpr h9)
          refine lv_iload_n hx hb dX1_worthBehindThrow_53 rfl (lv_at hl 3 rfl) ?_
          refine lv_iload hx hb dX1_worthBehindThrow_54 (lv_at hl 0 rfl) ?_
          refine lv_icmp_ne (tgt := 71) hx hb dX1_worthBehindThrow_56 (by decide) (fun c_56 => ?_) (fun c_56 => ?_)
          · skip
            have c_56 : ¬ oth = (own + mm) := fun h9 => c_56 ((nI_eq (a := oth) (b := own + mm) (by omega) (by omega)).mpr h9)
            refine lv_iload_n hx hb dX1_worthBehindThrow_71 rfl (lv_at hl 3 rfl) ?_
            refine lv_istore (lv' := [(7, .int (nI oth)), (6, .int (nI (own + mm))), (0, .ref ae), (1, .int (nI own)), (2, .int (nI oth)), (3, .int (nI mm)), (4, .int (nI (rt + j))), (5, .int (nI rt))]) hx hb dX1_worthBehindThrow_72 hl (by decide) rfl (fun ls hl => ?_)
            refine lv_iload hx hb dX1_worthBehindThrow_74 (lv_at hl 1 rfl) ?_
            refine zro_i (va_runS (As := [.int (nI (own + mm))]) (rest := []) ⟨hx, hb, hml, hown, hts⟩ (c_X4_isRosette l (own + mm) (by omega)) (va_cwS 1 hts gX1_worthBehindThrow_X4_isRosette rfl rfl rfl (by decide +kernel) ⟨(show 0 + 1 ≤ 2 * j + 2 by omega), (show 8 + (1 + 11) + 0 ≤ 54 * j + 51 by omega)⟩) zPu rfl rfl hl.1 rfl (lv_room (Nat.le_of_ble_eq_true rfl)) dX1_worthBehindThrow_76 ⟨Nat.zero_le _, Nat.zero_le _⟩) hP hS (fun H locs hP hS => ?_)
            refine lv_if_eq (tgt := 95) hx hb dX1_worthBehindThrow_79 (by decide) (fun c_79 => ?_) (fun c_79 => ?_)
            · skip
              have c_79 := bI_0.mp c_79
              refine lv_ldc (v := 1000000000) hx hb hown (hts (.constant RX1 56 (1000000000)) (List.mem_of_getElem? (i := 1) rfl)) dX1_worthBehindThrow_95 ?_
              refine lv_aload_n hx hb dX1_worthBehindThrow_97 rfl (lv_at hl 2 rfl) ?_
              refine lv_iload hx hb dX1_worthBehindThrow_98 (lv_at hl 0 rfl) ?_
              refine lv_iload hx hb dX1_worthBehindThrow_100 (lv_at hl 1 rfl) ?_
              refine lv_iload hx hb dX1_worthBehindThrow_102 (lv_at hl 6 rfl) ?_
              refine lv_iload hx hb dX1_worthBehindThrow_104 (lv_at hl 7 rfl) ?_
              refine zro_i (va_runV (As := [.int (nI oth), .int (nI (own + mm)), .int (nI (rt + j)), .int (nI rt)]) (rest := [.int 1000000000]) ⟨hx, hb, hml, hown, hts⟩ (hT oth (own + mm) (by omega) (by omega)) (cwV 4 hts gX1_worthBehindThrow_X1_worthToThrow rfl rfl rfl (by decide +kernel) ⟨(show (2 * j + 1) + 1 ≤ 2 * j + 2 by omega), (show 8 + (8 + 11) + (54 * j + 24) ≤ 54 * j + 51 by omega)⟩) (zPc_V (ci := 0) (q0 := 0) zB_X hP hK rfl rfl [0, 1] rfl (zX_at hX hS zF_A)) rfl rfl hl.1 rfl (lv_room (Nat.le_of_ble_eq_true rfl)) dX1_worthBehindThrow_106 ⟨Nat.zero_le _, Nat.zero_le _⟩) hP hS (fun H locs hP hS => ?_)
              have hle_106 := zE_le (rt + j) oth (own + mm)
              refine lv_isub hx hb dX1_worthBehindThrow_109 ?_
              refine zz_i (y := nI (1000000000 - (zE (rt + j) oth (own + mm)))) (pk_sub (a := 1000000000) (b := zE (rt + j) oth (own + mm)) (by omega)) ?_
              exact W.iret (v := nI (1000000000 - (zE (rt + j) oth (own + mm)))) hx hb hr (fun t ht hW => ⟨⟨_, (), rfl, (congrArg nI (by rw [zEB, if_neg c_6, if_neg (show ¬ zcen (own + mm) false (oth == own + mm) = false by rw [show (oth == own + mm) = false from (beq_eq_false_iff_ne.mpr c_15), c_26]; decide), if_neg c_47, if_neg (by rw [c_79]; decide), if_neg (fun h => c_15 h.1)])), trivial⟩, hS.F ht⟩) hS.2.2 dX1_worthBehindThrow_110
            · skip
              have c_79 := bI_1.mp c_79
              refine lv_aload_n hx hb dX1_worthBehindThrow_82 rfl (lv_at hl 2 rfl) ?_
              refine lv_iload hx hb dX1_worthBehindThrow_83 (lv_at hl 1 rfl) ?_
              refine lv_iload hx hb dX1_worthBehindThrow_85 (lv_at hl 0 rfl) ?_
              refine lv_iload hx hb dX1_worthBehindThrow_87 (lv_at hl 6 rfl) ?_
              refine lv_iload hx hb dX1_worthBehindThrow_89 (lv_at hl 7 rfl) ?_
              refine zro_i (va_runV (As := [.int (nI (own + mm)), .int (nI oth), .int (nI (rt + j)), .int (nI rt)]) (rest := []) ⟨hx, hb, hml, hown, hts⟩ (hT (own + mm) oth (by omega) (by omega)) (cwV 4 hts gX1_worthBehindThrow_X1_worthToThrow rfl rfl rfl (by decide +kernel) ⟨(show (2 * j + 1) + 1 ≤ 2 * j + 2 by omega), (show 8 + (8 + 11) + (54 * j + 24) ≤ 54 * j + 51 by omega)⟩) (zPc_V (ci := 0) (q0 := 0) zB_X hP hK rfl rfl [0, 1] rfl (zX_at hX hS zF_A)) rfl rfl hl.1 rfl (lv_room (Nat.le_of_ble_eq_true rfl)) dX1_worthBehindThrow_91 ⟨Nat.zero_le _, Nat.zero_le _⟩) hP hS (fun H locs hP hS => ?_)
              have hle_91 := zE_le (rt + j) (own + mm) oth
              exact W.iret (v := nI (zE (rt + j) (own + mm) oth)) hx hb hr (fun t ht hW => ⟨⟨_, (), rfl, (congrArg nI (by rw [zEB, if_neg c_6, if_neg (show ¬ zcen (own + mm) false (oth == own + mm) = false by rw [show (oth == own + mm) = false from (beq_eq_false_iff_ne.mpr c_15), c_26]; decide), if_neg c_47, if_pos c_79, if_neg (fun h => c_15 h.1)])), trivial⟩, hS.F ht⟩) hS.2.2 dX1_worthBehindThrow_94
          · skip
            have c_56 : oth = (own + mm) := (nI_eq (a := oth) (b := own + mm) (by omega) (by omega)).mp c_56
            exact absurd c_56 c_15
        · skip
          have c_47 : (own + mm) = 15 := (nI_eq (a := own + mm) (b := 15) (by omega) (by omega)).mp c_47
          refine lv_ldc (v := 1000000000) hx hb hown (hts (.constant RX1 56 (1000000000)) (List.mem_of_getElem? (i := 1) rfl)) dX1_worthBehindThrow_50 ?_
          exact W.iret (v := 1000000000) hx hb hr (fun t ht hW => ⟨⟨_, (), rfl, (congrArg nI (by rw [zEB, if_neg c_6, if_neg (show ¬ zcen (own + mm) false (oth == own + mm) = false by rw [show (oth == own + mm) = false from (beq_eq_false_iff_ne.mpr c_15), c_26]; decide), if_pos c_47])), trivial⟩, hS.F ht⟩) hS.2.2 dX1_worthBehindThrow_52
      · skip
        have c_26 := bI_0.mp c_26
        refine lv_ldc (v := 1000000000) hx hb hown (hts (.constant RX1 56 (1000000000)) (List.mem_of_getElem? (i := 1) rfl)) dX1_worthBehindThrow_29 ?_
        refine lv_aload_n hx hb dX1_worthBehindThrow_31 rfl (lv_at hl 1 rfl) ?_
        refine lv_iload_n hx hb dX1_worthBehindThrow_32 rfl (lv_at hl 3 rfl) ?_
        refine lv_iload_n hx hb dX1_worthBehindThrow_33 rfl (lv_at hl 2 rfl) ?_
        refine lv_iload hx hb dX1_worthBehindThrow_34 (lv_at hl 5 rfl) ?_
        refine lv_iload hx hb dX1_worthBehindThrow_36 (lv_at hl 6 rfl) ?_
        refine zro_i (va_runV (As := [.int (nI oth), .int (nI own), .int (nI (rt + j)), .int (nI rt)]) (rest := [.int 1000000000]) ⟨hx, hb, hml, hown, hts⟩ (hT oth own (by omega) (by omega)) (cwV 4 hts gX1_worthBehindThrow_X1_worthToThrow rfl rfl rfl (by decide +kernel) ⟨(show (2 * j + 1) + 1 ≤ 2 * j + 2 by omega), (show 8 + (8 + 11) + (54 * j + 24) ≤ 54 * j + 51 by omega)⟩) (zPc_V (ci := 0) (q0 := 0) zB_X hP hK rfl rfl [0, 1] rfl (zX_at hX hS zF_A)) rfl rfl hl.1 rfl (lv_room (Nat.le_of_ble_eq_true rfl)) dX1_worthBehindThrow_38 ⟨Nat.zero_le _, Nat.zero_le _⟩) hP hS (fun H locs hP hS => ?_)
        have hle_38 := zE_le (rt + j) oth own
        refine lv_isub hx hb dX1_worthBehindThrow_41 ?_
        refine zz_i (y := nI (1000000000 - (zE (rt + j) oth own))) (pk_sub (a := 1000000000) (b := zE (rt + j) oth own) (by omega)) ?_
        exact W.iret (v := nI (1000000000 - (zE (rt + j) oth own))) hx hb hr (fun t ht hW => ⟨⟨_, (), rfl, (congrArg nI (by rw [zEB, if_neg c_6, if_pos (by rw [show (oth == own + mm) = false from (beq_eq_false_iff_ne.mpr c_15)]; exact c_26)])), trivial⟩, hS.F ht⟩) hS.2.2 dX1_worthBehindThrow_42
    · skip
      have c_15 : oth = (own + mm) := (nI_eq (a := oth) (b := own + mm) (by omega) (by omega)).mp c_15
      refine lv_iconst (v := 1) hx hb dX1_worthBehindThrow_18 (by decide) ?_
      refine lv_goto (tgt := 23) hx hb dX1_worthBehindThrow_19 (by decide) ?_
      refine zro_i (va_runS (As := [.int (nI (own + mm)), .int 0, .int 1]) (rest := []) ⟨hx, hb, hml, hown, hts⟩ (c_X4_canEnter l (own + mm) (by omega) false true) (va_cwS 3 hts gX1_worthBehindThrow_X4_canEnter rfl rfl rfl (by decide +kernel) ⟨(show 0 + 1 ≤ 2 * j + 2 by omega), (show 8 + (3 + 11) + 0 ≤ 54 * j + 51 by omega)⟩) zPu rfl rfl hl.1 rfl (lv_room (Nat.le_of_ble_eq_true rfl)) dX1_worthBehindThrow_23 ⟨Nat.zero_le _, Nat.zero_le _⟩) hP hS (fun H locs hP hS => ?_)
      refine lv_if_ne (tgt := 43) hx hb dX1_worthBehindThrow_26 (by decide) (fun c_26 => ?_) (fun c_26 => ?_)
      · skip
        have c_26 := bI_1.mp c_26
        have hcl := zcen_le c_26
        refine lv_iload hx hb dX1_worthBehindThrow_43 (lv_at hl 0 rfl) ?_
        refine lv_bipush (v := 15) hx hb dX1_worthBehindThrow_45 (by decide) ?_
        refine lv_icmp_ne (tgt := 53) hx hb dX1_worthBehindThrow_47 (by decide) (fun c_47 => ?_) (fun c_47 => ?_)
        · skip
          have c_47 : ¬ (own + mm) = 15 := fun h9 => c_47 ((nI_eq (a := own + mm) (b := 15) (by omega) (by omega)).mpr h9)
          refine lv_iload_n hx hb dX1_worthBehindThrow_53 rfl (lv_at hl 3 rfl) ?_
          refine lv_iload hx hb dX1_worthBehindThrow_54 (lv_at hl 0 rfl) ?_
          refine lv_icmp_ne (tgt := 71) hx hb dX1_worthBehindThrow_56 (by decide) (fun c_56 => ?_) (fun c_56 => ?_)
          · skip
            have c_56 : ¬ oth = (own + mm) := fun h9 => c_56 ((nI_eq (a := oth) (b := own + mm) (by omega) (by omega)).mpr h9)
            exact absurd c_15 c_56
          · skip
            have c_56 : oth = (own + mm) := (nI_eq (a := oth) (b := own + mm) (by omega) (by omega)).mp c_56
            refine lv_iload hx hb dX1_worthBehindThrow_59 (lv_at hl 0 rfl) ?_
            refine zro_i (va_runS (As := [.int (nI (own + mm))]) (rest := []) ⟨hx, hb, hml, hown, hts⟩ (c_X4_isShared l (own + mm) (by omega)) (va_cwS 1 hts gX1_worthBehindThrow_X4_isShared rfl rfl rfl (by decide +kernel) ⟨(show 0 + 1 ≤ 2 * j + 2 by omega), (show 8 + (1 + 11) + 0 ≤ 54 * j + 51 by omega)⟩) zPu rfl rfl hl.1 rfl (lv_room (Nat.le_of_ble_eq_true rfl)) dX1_worthBehindThrow_61 ⟨Nat.zero_le _, Nat.zero_le _⟩) hP hS (fun H locs hP hS => ?_)
            refine lv_if_eq (tgt := 71) hx hb dX1_worthBehindThrow_64 (by decide) (fun c_64 => ?_) (fun c_64 => ?_)
            · skip
              have c_64 := bI_0.mp c_64
              refine lv_iload_n hx hb dX1_worthBehindThrow_71 rfl (lv_at hl 3 rfl) ?_
              refine lv_istore (lv' := [(7, .int (nI oth)), (6, .int (nI (own + mm))), (0, .ref ae), (1, .int (nI own)), (2, .int (nI oth)), (3, .int (nI mm)), (4, .int (nI (rt + j))), (5, .int (nI rt))]) hx hb dX1_worthBehindThrow_72 hl (by decide) rfl (fun ls hl => ?_)
              refine lv_iload hx hb dX1_worthBehindThrow_74 (lv_at hl 1 rfl) ?_
              refine zro_i (va_runS (As := [.int (nI (own + mm))]) (rest := []) ⟨hx, hb, hml, hown, hts⟩ (c_X4_isRosette l (own + mm) (by omega)) (va_cwS 1 hts gX1_worthBehindThrow_X4_isRosette rfl rfl rfl (by decide +kernel) ⟨(show 0 + 1 ≤ 2 * j + 2 by omega), (show 8 + (1 + 11) + 0 ≤ 54 * j + 51 by omega)⟩) zPu rfl rfl hl.1 rfl (lv_room (Nat.le_of_ble_eq_true rfl)) dX1_worthBehindThrow_76 ⟨Nat.zero_le _, Nat.zero_le _⟩) hP hS (fun H locs hP hS => ?_)
              refine lv_if_eq (tgt := 95) hx hb dX1_worthBehindThrow_79 (by decide) (fun c_79 => ?_) (fun c_79 => ?_)
              · skip
                have c_79 := bI_0.mp c_79
                refine lv_ldc (v := 1000000000) hx hb hown (hts (.constant RX1 56 (1000000000)) (List.mem_of_getElem? (i := 1) rfl)) dX1_worthBehindThrow_95 ?_
                refine lv_aload_n hx hb dX1_worthBehindThrow_97 rfl (lv_at hl 2 rfl) ?_
                refine lv_iload hx hb dX1_worthBehindThrow_98 (lv_at hl 0 rfl) ?_
                refine lv_iload hx hb dX1_worthBehindThrow_100 (lv_at hl 1 rfl) ?_
                refine lv_iload hx hb dX1_worthBehindThrow_102 (lv_at hl 6 rfl) ?_
                refine lv_iload hx hb dX1_worthBehindThrow_104 (lv_at hl 7 rfl) ?_
                refine zro_i (va_runV (As := [.int (nI oth), .int (nI (own + mm)), .int (nI (rt + j)), .int (nI rt)]) (rest := [.int 1000000000]) ⟨hx, hb, hml, hown, hts⟩ (hT oth (own + mm) (by omega) (by omega)) (cwV 4 hts gX1_worthBehindThrow_X1_worthToThrow rfl rfl rfl (by decide +kernel) ⟨(show (2 * j + 1) + 1 ≤ 2 * j + 2 by omega), (show 8 + (8 + 11) + (54 * j + 24) ≤ 54 * j + 51 by omega)⟩) (zPc_V (ci := 0) (q0 := 0) zB_X hP hK rfl rfl [0, 1] rfl (zX_at hX hS zF_A)) rfl rfl hl.1 rfl (lv_room (Nat.le_of_ble_eq_true rfl)) dX1_worthBehindThrow_106 ⟨Nat.zero_le _, Nat.zero_le _⟩) hP hS (fun H locs hP hS => ?_)
                have hle_106 := zE_le (rt + j) oth (own + mm)
                refine lv_isub hx hb dX1_worthBehindThrow_109 ?_
                refine zz_i (y := nI (1000000000 - (zE (rt + j) oth (own + mm)))) (pk_sub (a := 1000000000) (b := zE (rt + j) oth (own + mm)) (by omega)) ?_
                exact W.iret (v := nI (1000000000 - (zE (rt + j) oth (own + mm)))) hx hb hr (fun t ht hW => ⟨⟨_, (), rfl, (congrArg nI (by rw [zEB, if_neg c_6, if_neg (show ¬ zcen (own + mm) false (oth == own + mm) = false by rw [show (oth == own + mm) = true from (beq_iff_eq.mpr c_15), c_26]; decide), if_neg c_47, if_neg (by rw [c_79]; decide), if_neg (fun h => by rw [h.2] at c_64; cases c_64)])), trivial⟩, hS.F ht⟩) hS.2.2 dX1_worthBehindThrow_110
              · skip
                have c_79 := bI_1.mp c_79
                refine lv_aload_n hx hb dX1_worthBehindThrow_82 rfl (lv_at hl 2 rfl) ?_
                refine lv_iload hx hb dX1_worthBehindThrow_83 (lv_at hl 1 rfl) ?_
                refine lv_iload hx hb dX1_worthBehindThrow_85 (lv_at hl 0 rfl) ?_
                refine lv_iload hx hb dX1_worthBehindThrow_87 (lv_at hl 6 rfl) ?_
                refine lv_iload hx hb dX1_worthBehindThrow_89 (lv_at hl 7 rfl) ?_
                refine zro_i (va_runV (As := [.int (nI (own + mm)), .int (nI oth), .int (nI (rt + j)), .int (nI rt)]) (rest := []) ⟨hx, hb, hml, hown, hts⟩ (hT (own + mm) oth (by omega) (by omega)) (cwV 4 hts gX1_worthBehindThrow_X1_worthToThrow rfl rfl rfl (by decide +kernel) ⟨(show (2 * j + 1) + 1 ≤ 2 * j + 2 by omega), (show 8 + (8 + 11) + (54 * j + 24) ≤ 54 * j + 51 by omega)⟩) (zPc_V (ci := 0) (q0 := 0) zB_X hP hK rfl rfl [0, 1] rfl (zX_at hX hS zF_A)) rfl rfl hl.1 rfl (lv_room (Nat.le_of_ble_eq_true rfl)) dX1_worthBehindThrow_91 ⟨Nat.zero_le _, Nat.zero_le _⟩) hP hS (fun H locs hP hS => ?_)
                have hle_91 := zE_le (rt + j) (own + mm) oth
                exact W.iret (v := nI (zE (rt + j) (own + mm) oth)) hx hb hr (fun t ht hW => ⟨⟨_, (), rfl, (congrArg nI (by rw [zEB, if_neg c_6, if_neg (show ¬ zcen (own + mm) false (oth == own + mm) = false by rw [show (oth == own + mm) = true from (beq_iff_eq.mpr c_15), c_26]; decide), if_neg c_47, if_pos c_79, if_neg (fun h => by rw [h.2] at c_64; cases c_64)])), trivial⟩, hS.F ht⟩) hS.2.2 dX1_worthBehindThrow_94
            · skip
              have c_64 := bI_1.mp c_64
              refine lv_iconst (v := 0) hx hb dX1_worthBehindThrow_67 (by decide) ?_
              refine lv_goto (tgt := 72) hx hb dX1_worthBehindThrow_68 (by decide) ?_
              refine lv_istore (lv' := [(7, .int 0), (6, .int (nI (own + mm))), (0, .ref ae), (1, .int (nI own)), (2, .int (nI oth)), (3, .int (nI mm)), (4, .int (nI (rt + j))), (5, .int (nI rt))]) hx hb dX1_worthBehindThrow_72 hl (by decide) rfl (fun ls hl => ?_)
              refine lv_iload hx hb dX1_worthBehindThrow_74 (lv_at hl 1 rfl) ?_
              refine zro_i (va_runS (As := [.int (nI (own + mm))]) (rest := []) ⟨hx, hb, hml, hown, hts⟩ (c_X4_isRosette l (own + mm) (by omega)) (va_cwS 1 hts gX1_worthBehindThrow_X4_isRosette rfl rfl rfl (by decide +kernel) ⟨(show 0 + 1 ≤ 2 * j + 2 by omega), (show 8 + (1 + 11) + 0 ≤ 54 * j + 51 by omega)⟩) zPu rfl rfl hl.1 rfl (lv_room (Nat.le_of_ble_eq_true rfl)) dX1_worthBehindThrow_76 ⟨Nat.zero_le _, Nat.zero_le _⟩) hP hS (fun H locs hP hS => ?_)
              refine lv_if_eq (tgt := 95) hx hb dX1_worthBehindThrow_79 (by decide) (fun c_79 => ?_) (fun c_79 => ?_)
              · skip
                have c_79 := bI_0.mp c_79
                refine lv_ldc (v := 1000000000) hx hb hown (hts (.constant RX1 56 (1000000000)) (List.mem_of_getElem? (i := 1) rfl)) dX1_worthBehindThrow_95 ?_
                refine lv_aload_n hx hb dX1_worthBehindThrow_97 rfl (lv_at hl 2 rfl) ?_
                refine lv_iload hx hb dX1_worthBehindThrow_98 (lv_at hl 0 rfl) ?_
                refine lv_iload hx hb dX1_worthBehindThrow_100 (lv_at hl 1 rfl) ?_
                refine lv_iload hx hb dX1_worthBehindThrow_102 (lv_at hl 6 rfl) ?_
                refine lv_iload hx hb dX1_worthBehindThrow_104 (lv_at hl 7 rfl) ?_
                refine zro_i (va_runV (As := [.int 0, .int (nI (own + mm)), .int (nI (rt + j)), .int (nI rt)]) (rest := [.int 1000000000]) ⟨hx, hb, hml, hown, hts⟩ (hT 0 (own + mm) (by omega) (by omega)) (cwV 4 hts gX1_worthBehindThrow_X1_worthToThrow rfl rfl rfl (by decide +kernel) ⟨(show (2 * j + 1) + 1 ≤ 2 * j + 2 by omega), (show 8 + (8 + 11) + (54 * j + 24) ≤ 54 * j + 51 by omega)⟩) (zPc_V (ci := 0) (q0 := 0) zB_X hP hK rfl rfl [0, 1] rfl (zX_at hX hS zF_A)) rfl rfl hl.1 rfl (lv_room (Nat.le_of_ble_eq_true rfl)) dX1_worthBehindThrow_106 ⟨Nat.zero_le _, Nat.zero_le _⟩) hP hS (fun H locs hP hS => ?_)
                have hle_106 := zE_le (rt + j) 0 (own + mm)
                refine lv_isub hx hb dX1_worthBehindThrow_109 ?_
                refine zz_i (y := nI (1000000000 - (zE (rt + j) 0 (own + mm)))) (pk_sub (a := 1000000000) (b := zE (rt + j) 0 (own + mm)) (by omega)) ?_
                exact W.iret (v := nI (1000000000 - (zE (rt + j) 0 (own + mm)))) hx hb hr (fun t ht hW => ⟨⟨_, (), rfl, (congrArg nI (by rw [zEB, if_neg c_6, if_neg (show ¬ zcen (own + mm) false (oth == own + mm) = false by rw [show (oth == own + mm) = true from (beq_iff_eq.mpr c_15), c_26]; decide), if_neg c_47, if_neg (by rw [c_79]; decide), if_pos ⟨c_15, c_64⟩])), trivial⟩, hS.F ht⟩) hS.2.2 dX1_worthBehindThrow_110
              · skip
                have c_79 := bI_1.mp c_79
                refine lv_aload_n hx hb dX1_worthBehindThrow_82 rfl (lv_at hl 2 rfl) ?_
                refine lv_iload hx hb dX1_worthBehindThrow_83 (lv_at hl 1 rfl) ?_
                refine lv_iload hx hb dX1_worthBehindThrow_85 (lv_at hl 0 rfl) ?_
                refine lv_iload hx hb dX1_worthBehindThrow_87 (lv_at hl 6 rfl) ?_
                refine lv_iload hx hb dX1_worthBehindThrow_89 (lv_at hl 7 rfl) ?_
                refine zro_i (va_runV (As := [.int (nI (own + mm)), .int 0, .int (nI (rt + j)), .int (nI rt)]) (rest := []) ⟨hx, hb, hml, hown, hts⟩ (hT (own + mm) 0 (by omega) (by omega)) (cwV 4 hts gX1_worthBehindThrow_X1_worthToThrow rfl rfl rfl (by decide +kernel) ⟨(show (2 * j + 1) + 1 ≤ 2 * j + 2 by omega), (show 8 + (8 + 11) + (54 * j + 24) ≤ 54 * j + 51 by omega)⟩) (zPc_V (ci := 0) (q0 := 0) zB_X hP hK rfl rfl [0, 1] rfl (zX_at hX hS zF_A)) rfl rfl hl.1 rfl (lv_room (Nat.le_of_ble_eq_true rfl)) dX1_worthBehindThrow_91 ⟨Nat.zero_le _, Nat.zero_le _⟩) hP hS (fun H locs hP hS => ?_)
                have hle_91 := zE_le (rt + j) (own + mm) 0
                exact W.iret (v := nI (zE (rt + j) (own + mm) 0)) hx hb hr (fun t ht hW => ⟨⟨_, (), rfl, (congrArg nI (by rw [zEB, if_neg c_6, if_neg (show ¬ zcen (own + mm) false (oth == own + mm) = false by rw [show (oth == own + mm) = true from (beq_iff_eq.mpr c_15), c_26]; decide), if_neg c_47, if_pos c_79, if_pos ⟨c_15, c_64⟩])), trivial⟩, hS.F ht⟩) hS.2.2 dX1_worthBehindThrow_94
        · skip
          have c_47 : (own + mm) = 15 := (nI_eq (a := own + mm) (b := 15) (by omega) (by omega)).mp c_47
          refine lv_ldc (v := 1000000000) hx hb hown (hts (.constant RX1 56 (1000000000)) (List.mem_of_getElem? (i := 1) rfl)) dX1_worthBehindThrow_50 ?_
          exact W.iret (v := 1000000000) hx hb hr (fun t ht hW => ⟨⟨_, (), rfl, (congrArg nI (by rw [zEB, if_neg c_6, if_neg (show ¬ zcen (own + mm) false (oth == own + mm) = false by rw [show (oth == own + mm) = true from (beq_iff_eq.mpr c_15), c_26]; decide), if_pos c_47])), trivial⟩, hS.F ht⟩) hS.2.2 dX1_worthBehindThrow_52
      · skip
        have c_26 := bI_0.mp c_26
        refine lv_ldc (v := 1000000000) hx hb hown (hts (.constant RX1 56 (1000000000)) (List.mem_of_getElem? (i := 1) rfl)) dX1_worthBehindThrow_29 ?_
        refine lv_aload_n hx hb dX1_worthBehindThrow_31 rfl (lv_at hl 1 rfl) ?_
        refine lv_iload_n hx hb dX1_worthBehindThrow_32 rfl (lv_at hl 3 rfl) ?_
        refine lv_iload_n hx hb dX1_worthBehindThrow_33 rfl (lv_at hl 2 rfl) ?_
        refine lv_iload hx hb dX1_worthBehindThrow_34 (lv_at hl 5 rfl) ?_
        refine lv_iload hx hb dX1_worthBehindThrow_36 (lv_at hl 6 rfl) ?_
        refine zro_i (va_runV (As := [.int (nI oth), .int (nI own), .int (nI (rt + j)), .int (nI rt)]) (rest := [.int 1000000000]) ⟨hx, hb, hml, hown, hts⟩ (hT oth own (by omega) (by omega)) (cwV 4 hts gX1_worthBehindThrow_X1_worthToThrow rfl rfl rfl (by decide +kernel) ⟨(show (2 * j + 1) + 1 ≤ 2 * j + 2 by omega), (show 8 + (8 + 11) + (54 * j + 24) ≤ 54 * j + 51 by omega)⟩) (zPc_V (ci := 0) (q0 := 0) zB_X hP hK rfl rfl [0, 1] rfl (zX_at hX hS zF_A)) rfl rfl hl.1 rfl (lv_room (Nat.le_of_ble_eq_true rfl)) dX1_worthBehindThrow_38 ⟨Nat.zero_le _, Nat.zero_le _⟩) hP hS (fun H locs hP hS => ?_)
        have hle_38 := zE_le (rt + j) oth own
        refine lv_isub hx hb dX1_worthBehindThrow_41 ?_
        refine zz_i (y := nI (1000000000 - (zE (rt + j) oth own))) (pk_sub (a := 1000000000) (b := zE (rt + j) oth own) (by omega)) ?_
        exact W.iret (v := nI (1000000000 - (zE (rt + j) oth own))) hx hb hr (fun t ht hW => ⟨⟨_, (), rfl, (congrArg nI (by rw [zEB, if_neg c_6, if_pos (by rw [show (oth == own + mm) = true from (beq_iff_eq.mpr c_15)]; exact c_26)])), trivial⟩, hS.F ht⟩) hS.2.2 dX1_worthBehindThrow_42

set_option maxHeartbeats 4000000 in
set_option maxRecDepth 100000 in
theorem c_X1_worthToThrow0 (l : Launch) (dC : Nat → ClassId) (dI : Nat → Nat → Nat) (cyI cyJ : ClassId) (tb : Nat) (ae at_ : Nat) (rh : Int32) (wf : Nat → Int32) (k : Nat) (hk : k ≤ 60) (htb : zTb k wf) (rt : Nat) (hj : rt ≤ k) (own oth : Nat) (ho : own < 15) (ht9 : oth < 15) : Met l yX1_worthToThrow wsX1_worthToThrow ({ frames := 1, cells := 0, slots := 0, locals := 24 }) (zPc [.ref ae, .int (nI own), .int (nI oth), .int (nI rt), .int (nI rt)] (dC, dI) vwCl [(cyI, .int), (cyJ, .long)] [(ae, .inr (0, [.ref at_, .int rh])), (at_, .inl (cyI, 13500, .inl wf))] (fun U => zX tb zF U U.heap)) (va_Qi (fun (r : Int32) (_ : Unit) => r = nI (zE rt own oth)) (fun _ _ => True) zF) 0 0 zF := by
  refine Met.ofW (cc := cX1_worthToThrow) (maxL := 8) (ret := (some .int)) (by decide) rfl ?_
  intro p e s m args below meth c s₁ B hml hv
  obtain ⟨rfl, hP, hK, hX⟩ := hv
  have hx := B.exec
  have hb := B.bytes
  have hr := B.returns
  have hts := atoms_spec (ws := wsX1_worthToThrow) B.pre
  have hown : s.vm.findClass RX1 = some m.cls := findClass_of_methodNamed B.named
  have hlocks := B.notSynchronized
  have hl := lv_entry ([.ref ae, .int (nI own), .int (nI oth), .int (nI rt), .int (nI rt)]) (n := 8) (Nat.le_of_ble_eq_true rfl)
  rw [lg_entry_eq]
  generalize (lg_sl ([.ref ae, .int (nI own), .int (nI oth), .int (nI rt), .int (nI rt)]) ++ List.replicate (8 - (lg_sl ([.ref ae, .int (nI own), .int (nI oth), .int (nI rt), .int (nI rt)])).length) Slot.unset).toArray = ls at hl ⊢
  have hl : lv_has ls 8 [(0, .ref ae), (1, .int (nI own)), (2, .int (nI oth)), (3, .int (nI rt)), (4, .int (nI rt))] := hl
  have hS : va_S zF s.heap s.heap [] := va_S.rf
  generalize hQe : MQ below _ _ _ _ _ _ = Q
  refine lv_iload_n hx hb dX1_worthToThrow_0 rfl (lv_at hl 3 rfl) ?_
  refine lv_iload hx hb dX1_worthToThrow_1 (lv_at hl 4 rfl) ?_
  refine lv_icmp_gt (tgt := 14) hx hb dX1_worthToThrow_3 (by decide) (fun c_3 => ?_) (fun c_3 => ?_)
  · skip
    have c_3 : rt < rt := (nI_ltI (a := rt) (b := rt) (by omega) (by omega)).mp c_3
    exact absurd c_3 (Nat.lt_irrefl _)
  · skip
    have c_3 : ¬ rt < rt := fun h9 => c_3 ((nI_ltI (a := rt) (b := rt) (by omega) (by omega)).mpr h9)
    refine lv_aload_n hx hb dX1_worthToThrow_6 rfl (lv_at hl 0 rfl) ?_
    refine lv_iload_n hx hb dX1_worthToThrow_7 rfl (lv_at hl 1 rfl) ?_
    refine lv_iload_n hx hb dX1_worthToThrow_8 rfl (lv_at hl 2 rfl) ?_
    refine lv_iload_n hx hb dX1_worthToThrow_9 rfl (lv_at hl 3 rfl) ?_
    refine zro_i (va_runV (As := [.int (nI own), .int (nI oth), .int (nI rt)]) (rest := []) ⟨hx, hb, hml, hown, hts⟩ (c_X1_held l dC dI cyI cyJ ae at_ rh wf k hk htb own oth rt (by omega) (by omega) (by omega)) (cwV 3 hts gX1_worthToThrow_X1_held rfl rfl rfl (by decide +kernel) ⟨(show 0 + 1 ≤ 1 by omega), (show 8 + (5 + 11) + 0 ≤ 24 by omega)⟩) (zPc_V (ci := 0) (q0 := 0) zB_T hP hK rfl rfl [0, 1] rfl (fun _ _ _ => trivial)) rfl rfl hl.1 rfl (lv_room (Nat.le_of_ble_eq_true rfl)) dX1_worthToThrow_10 ⟨Nat.zero_le _, Nat.zero_le _⟩) hP hS (fun H locs hP hS => ?_)
    subst hQe
    exact W.iret (v := nI (zE rt own oth)) hx hb hr (fun t ht hW => ⟨⟨_, (), rfl, rfl, trivial⟩, hS.F ht⟩) hS.2.2 dX1_worthToThrow_13

set_option maxHeartbeats 4000000 in
set_option maxRecDepth 100000 in
theorem c_X1_worthToThrow1 (l : Launch) (dC : Nat → ClassId) (dI : Nat → Nat → Nat) (cyI cyJ : ClassId) (tb : Nat) (ae at_ : Nat) (rh : Int32) (wf : Nat → Int32) (k : Nat) (hk : k ≤ 60) (htb : zTb k wf) (rt j : Nat) (hj : rt ≤ k) (hj2 : j ≤ 100) (hB : ∀ own oth mm : Nat, own < 15 → oth < 15 → mm ≤ 4 → Met l yX1_worthBehindThrow wsX1_worthBehindThrow ({ frames := 2 * j + 2, cells := 0, slots := 0, locals := 54 * j + 51 }) (zPc [.ref ae, .int (nI own), .int (nI oth), .int (nI mm), .int (nI (rt + j)), .int (nI rt)] (dC, dI) vwCl [(cyI, .int), (cyJ, .long)] [(ae, .inr (0, [.ref at_, .int rh])), (at_, .inl (cyI, 13500, .inl wf))] (fun U => zX tb zF U U.heap)) (va_Qi (fun (r : Int32) (_ : Unit) => r = nI (zEB (zE (rt + j)) own oth mm)) (fun _ _ => True) zF) 0 0 zF) (own oth : Nat) (ho : own < 15) (ht9 : oth < 15) : Met l yX1_worthToThrow wsX1_worthToThrow ({ frames := 2 * (j + 1) + 1, cells := 0, slots := 0, locals := 54 * (j + 1) + 24 }) (zPc [.ref ae, .int (nI own), .int (nI oth), .int (nI (rt + (j + 1))), .int (nI rt)] (dC, dI) vwCl [(cyI, .int), (cyJ, .long)] [(ae, .inr (0, [.ref at_, .int rh])), (at_, .inl (cyI, 13500, .inl wf))] (fun U => zX tb zF U U.heap)) (va_Qi (fun (r : Int32) (_ : Unit) => r = nI (zE (rt + (j + 1)) own oth)) (fun _ _ => True) zF) 0 0 zF := by
  refine Met.ofW (cc := cX1_worthToThrow) (maxL := 8) (ret := (some .int)) (by decide) rfl ?_
  intro p e s m args below meth c s₁ B hml hv
  obtain ⟨rfl, hP, hK, hX⟩ := hv
  have hx := B.exec
  have hb := B.bytes
  have hr := B.returns
  have hts := atoms_spec (ws := wsX1_worthToThrow) B.pre
  have hown : s.vm.findClass RX1 = some m.cls := findClass_of_methodNamed B.named
  have hlocks := B.notSynchronized
  have hl := lv_entry ([.ref ae, .int (nI own), .int (nI oth), .int (nI (rt + (j + 1))), .int (nI rt)]) (n := 8) (Nat.le_of_ble_eq_true rfl)
  rw [lg_entry_eq]
  generalize (lg_sl ([.ref ae, .int (nI own), .int (nI oth), .int (nI (rt + (j + 1))), .int (nI rt)]) ++ List.replicate (8 - (lg_sl ([.ref ae, .int (nI own), .int (nI oth), .int (nI (rt + (j + 1))), .int (nI rt)])).length) Slot.unset).toArray = ls at hl ⊢
  have hl : lv_has ls 8 [(0, .ref ae), (1, .int (nI own)), (2, .int (nI oth)), (3, .int (nI (rt + (j + 1)))), (4, .int (nI rt))] := hl
  have hS : va_S zF s.heap s.heap [] := va_S.rf
  generalize hQe : MQ below _ _ _ _ _ _ = Q
  refine lv_iload_n hx hb dX1_worthToThrow_0 rfl (lv_at hl 3 rfl) ?_
  refine lv_iload hx hb dX1_worthToThrow_1 (lv_at hl 4 rfl) ?_
  refine lv_icmp_gt (tgt := 14) hx hb dX1_worthToThrow_3 (by decide) (fun c_3 => ?_) (fun c_3 => ?_)
  · skip
    have c_3 : rt < (rt + (j + 1)) := (nI_ltI (a := rt) (b := rt + (j + 1)) (by omega) (by omega)).mp c_3
    have hfl : ∀ m, m ≤ 4 → (zEB (zE (rt + j)) own oth) m ≤ 1000000000 := fun m _ => zEB_le (zE_le _) _ _ _
    refine lv_lconst (v := 0) hx hb dX1_worthToThrow_14 (by decide) ?_
    refine lv_lstore (lv' := [(5, .long 0), (0, .ref ae), (1, .int (nI own)), (2, .int (nI oth)), (3, .int (nI (rt + (j + 1)))), (4, .int (nI rt))]) hx hb dX1_worthToThrow_15 hl (by decide) rfl (fun ls hl => ?_)
    refine lv_iconst (v := 0) hx hb dX1_worthToThrow_17 (by decide) ?_
    refine lv_istore (lv' := [(7, .int 0), (5, .long 0), (0, .ref ae), (1, .int (nI own)), (2, .int (nI oth)), (3, .int (nI (rt + (j + 1)))), (4, .int (nI rt))]) hx hb dX1_worthToThrow_18 hl (by decide) rfl (fun ls hl => ?_)
    have lp : ∀ (n9 : Nat) (i : Nat) (sv : Int64), i ≤ 5 → sv = lN (zsm (zEB (zE (rt + j)) own oth) i) → 5 - i < n9 → ∀ (H : Heap) (locs : List Loc), va_P (dC, dI) vwCl [(ae, .inr (0, [.ref at_, .int rh])), (at_, .inl (cyI, 13500, .inl wf))] H → va_S zF s.heap H locs → ∀ ls : Array Slot, lv_has ls 8 [(7, .int (nI i)), (5, .long sv), (0, .ref ae), (1, .int (nI own)), (2, .int (nI oth)), (3, .int (nI (rt + (j + 1)))), (4, .int (nI rt))] → W p l e (headSpec wsX1_worthToThrow ({ frames := 2 * (j + 1) + 1, cells := 0, slots := 0, locals := 54 * (j + 1) + 24 })).room s m ([.ref ae, .int (nI own), .int (nI oth), .int (nI (rt + (j + 1))), .int (nI rt)] : List Value).toArray below meth c H locs 0 0 Q (F0 m 20 ls []) := by
      intro n9
      induction n9 with
      | zero => intro i sv hi2 hsv hm9; exact absurd hm9 (Nat.not_lt_zero _)
      | succ n9 ih20 =>
        intro i sv hi2 hsv hm9 H locs hP hS ls hl
        refine lv_iload hx hb dX1_worthToThrow_20 (lv_at hl 0 rfl) ?_
        refine lv_iconst (v := 4) hx hb dX1_worthToThrow_22 (by decide) ?_
        refine lv_icmp_gt (tgt := 58) hx hb dX1_worthToThrow_23 (by decide) (fun c_23 => ?_) (fun c_23 => ?_)
        · skip
          have c_23 : 4 < i := (nI_ltI (a := 4) (b := i) (by omega) (by omega)).mp c_23
          refine lv_lload hx hb dX1_worthToThrow_58 (lv_at hl 1 rfl) ?_
          refine lv_ldc2 (v := 16) hx hb hown (hts (.constantLong RX1 50 (16)) (List.mem_of_getElem? (i := 1) rfl)) dX1_worthToThrow_60 ?_
          refine lv_ldiv hx hb dX1_worthToThrow_63 (by decide) ?_
          refine zz_l (y := lN (zsm (zEB (zE (rt + j)) own oth) 5 / 16)) (by rw [hsv, show i = 5 by omega]; exact zdiv16 (zsm_le hfl 5 (by omega))) ?_
          refine lv_l2i (v := (lN (zsm (zEB (zE (rt + j)) own oth) 5 / 16) : Int64).toInt32) hx hb dX1_worthToThrow_64 rfl ?_
          refine zz_i (y := nI (zsm (zEB (zE (rt + j)) own oth) 5 / 16)) (lN_i _) ?_
          subst hQe
          exact W.iret (v := nI (zsm (zEB (zE (rt + j)) own oth) 5 / 16)) hx hb hr (fun t ht hW => ⟨⟨_, (), rfl, rfl, trivial⟩, hS.F ht⟩) hS.2.2 dX1_worthToThrow_65
        · skip
          have c_23 : ¬ 4 < i := fun h9 => c_23 ((nI_ltI (a := 4) (b := i) (by omega) (by omega)).mpr h9)
          refine lv_lload hx hb dX1_worthToThrow_26 (lv_at hl 1 rfl) ?_
          refine lv_iload hx hb dX1_worthToThrow_28 (lv_at hl 0 rfl) ?_
          refine zro_i (va_runS (As := [.int (nI i)]) (rest := [.long sv]) ⟨hx, hb, hml, hown, hts⟩ (c_X0_timesIn16 l tb i (by omega)) (va_cwS 1 hts gX1_worthToThrow_X0_timesIn16 rfl rfl rfl (by decide +kernel) ⟨(show 0 + 1 ≤ 2 * (j + 1) + 1 by omega), (show 8 + (1 + 11) + 0 ≤ 54 * (j + 1) + 24 by omega)⟩) (zPx zB_X (zX_at hX hS zF_A)) rfl rfl hl.1 rfl (lv_room (Nat.le_of_ble_eq_true rfl)) dX1_worthToThrow_30 ⟨Nat.zero_le _, Nat.zero_le _⟩) hP hS (fun H locs hP hS => ?_)
          refine lv_i2l (v := (nI (ztm i) : Int32).toInt64) hx hb dX1_worthToThrow_33 rfl ?_
          refine zz_l (y := lN (ztm i)) (ztm_l i) ?_
          refine lv_aload_n hx hb dX1_worthToThrow_34 rfl (lv_at hl 2 rfl) ?_
          refine lv_iload_n hx hb dX1_worthToThrow_35 rfl (lv_at hl 3 rfl) ?_
          refine lv_iload_n hx hb dX1_worthToThrow_36 rfl (lv_at hl 4 rfl) ?_
          refine lv_iload hx hb dX1_worthToThrow_37 (lv_at hl 0 rfl) ?_
          refine lv_iload_n hx hb dX1_worthToThrow_39 rfl (lv_at hl 5 rfl) ?_
          refine lv_iconst (v := 1) hx hb dX1_worthToThrow_40 (by decide) ?_
          refine lv_isub hx hb dX1_worthToThrow_41 ?_
          refine zz_i (y := nI (rt + j)) (nI_pred (rt + j)) ?_
          refine lv_iload hx hb dX1_worthToThrow_42 (lv_at hl 6 rfl) ?_
          refine zro_i (va_runV (As := [.int (nI own), .int (nI oth), .int (nI i), .int (nI (rt + j)), .int (nI rt)]) (rest := [.long (lN (ztm i)), .long sv]) ⟨hx, hb, hml, hown, hts⟩ (hB own oth i (by omega) (by omega) (by omega)) (cwV 5 hts gX1_worthToThrow_X1_worthBehindThrow rfl rfl rfl (by decide +kernel) ⟨(show (2 * j + 2) + 1 ≤ 2 * (j + 1) + 1 by omega), (show 8 + (8 + 11) + (54 * j + 51) ≤ 54 * (j + 1) + 24 by omega)⟩) (zPc_V (ci := 0) (q0 := 0) zB_X hP hK rfl rfl [0, 1] rfl (zX_at hX hS zF_A)) rfl rfl hl.1 rfl (lv_room (Nat.le_of_ble_eq_true rfl)) dX1_worthToThrow_44 ⟨Nat.zero_le _, Nat.zero_le _⟩) hP hS (fun H locs hP hS => ?_)
          refine lv_i2l (v := (nI (zEB (zE (rt + j)) own oth i) : Int32).toInt64) hx hb dX1_worthToThrow_47 rfl ?_
          refine zz_l (y := lN ((zEB (zE (rt + j)) own oth) i)) (nI_lw (hfl i (by omega))) ?_
          refine lv_lmul hx hb dX1_worthToThrow_48 ?_
          refine lv_ladd hx hb dX1_worthToThrow_49 ?_
          refine zz_l (y := lN (zsm (zEB (zE (rt + j)) own oth) (i + 1))) (by rw [hsv]; exact zsm_s (zEB (zE (rt + j)) own oth) i) ?_
          refine lv_lstore (lv' := [(5, .long (lN (zsm (zEB (zE (rt + j)) own oth) (i + 1)))), (7, .int (nI i)), (0, .ref ae), (1, .int (nI own)), (2, .int (nI oth)), (3, .int (nI (rt + (j + 1)))), (4, .int (nI rt))]) hx hb dX1_worthToThrow_50 hl (by decide) rfl (fun ls hl => ?_)
          refine lv_iinc (v := nI (i + 1)) (lv' := [(7, .int (nI (i + 1))), (5, .long (lN (zsm (zEB (zE (rt + j)) own oth) (i + 1)))), (0, .ref ae), (1, .int (nI own)), (2, .int (nI oth)), (3, .int (nI (rt + (j + 1)))), (4, .int (nI rt))]) hx hb dX1_worthToThrow_52 hl (k := 1) rfl (nI_1 i) (by decide) rfl (fun ls hl => ?_)
          refine lv_goto (tgt := 20) hx hb dX1_worthToThrow_55 (by decide) ?_
          exact ih20 (i + 1) _ (by omega) rfl (by omega) _ _ hP hS _ (lv_sub hl [0, 1, 2, 3, 4, 5, 6] rfl)
    exact lp 6 0 0 (by omega) rfl (by omega) _ _ hP hS _ (lv_sub hl [0, 1, 2, 3, 4, 5, 6] rfl)
  · skip
    have c_3 : ¬ rt < (rt + (j + 1)) := fun h9 => c_3 ((nI_ltI (a := rt) (b := rt + (j + 1)) (by omega) (by omega)).mpr h9)
    exact absurd (by omega) c_3

theorem c_X1_worthToThrow (l : Launch) (dC : Nat → ClassId) (dI : Nat → Nat → Nat) (cyI cyJ : ClassId) (tb : Nat) (ae at_ : Nat) (rh : Int32) (wf : Nat → Int32) (k : Nat) (hk : k ≤ 60) (htb : zTb k wf) (rt : Nat) (hj : rt ≤ k) : ∀ j, j ≤ 100 → ∀ own oth : Nat, own < 15 → oth < 15 → Met l yX1_worthToThrow wsX1_worthToThrow ({ frames := 2 * j + 1, cells := 0, slots := 0, locals := 54 * j + 24 }) (zPc [.ref ae, .int (nI own), .int (nI oth), .int (nI (rt + j)), .int (nI rt)] (dC, dI) vwCl [(cyI, .int), (cyJ, .long)] [(ae, .inr (0, [.ref at_, .int rh])), (at_, .inl (cyI, 13500, .inl wf))] (fun U => zX tb zF U U.heap)) (va_Qi (fun (r : Int32) (_ : Unit) => r = nI (zE (rt + j) own oth)) (fun _ _ => True) zF) 0 0 zF := by
  intro j
  induction j with
  | zero => intro _ own oth ho ht9; exact c_X1_worthToThrow0 l dC dI cyI cyJ tb ae at_ rh wf k hk htb rt hj own oth ho ht9
  | succ j ih => intro h9 own oth ho ht9; exact c_X1_worthToThrow1 l dC dI cyI cyJ tb ae at_ rh wf k hk htb rt j hj (by omega) (fun own oth mm ho ht9 hmm => c_X1_worthBehindThrow0 l dC dI cyI cyJ tb ae at_ rh wf k hk htb rt j hj (by omega) (ih (by omega)) own oth mm ho ht9 hmm) own oth ho ht9
end
section
/-! filling the table -/
theorem zh {D : va_G} {cl : List vw_C} {w : va_W} {H : Heap} {t : State} (ht : t.heap = H) (h : va_P D cl w H) : va_P D cl w t.heap := by rw [ht]; exact h
/-- row rn + 1 is filled up to c; the rows ahead of it stand -/
def zRw (rn c : Nat) (wf g : Nat → Int32) : Prop := (∀ q, q < rn * 225 → g q = wf q) ∧ ∀ q, q < c → g (rn * 225 + q) = nI (zE (rn + 1) (q / 15) (q % 15))
theorem zRw_0 (rn : Nat) (wf : Nat → Int32) : zRw rn 0 wf wf := ⟨fun _ _ => rfl, fun _ h => absurd h (Nat.not_lt_zero _)⟩
theorem zRw_s {rn c i j : Nat} {wf g : Nat → Int32} (h : zRw rn c wf g) (hc : c = i * 15 + j) (hj : j < 15) : zRw rn (c + 1) wf (upd g (rn * 225 + c) (nI (zE (rn + 1) i j))) := by
  refine ⟨fun q hq => ?_, fun q hq => ?_⟩
  · rw [pk_un (by omega)]; exact h.1 q hq
  · rcases Nat.lt_or_ge q c with h1 | h1
    · rw [pk_un (by omega)]; exact h.2 q h1
    · have e : q = c := by omega
      subst e
      rw [pk_us, show q / 15 = i by omega, show q % 15 = j by omega]
theorem zRw_t {rn c : Nat} {wf g : Nat → Int32} (h : zRw rn c wf g) (ht : zTb rn wf) : zTb rn g := by
  intro r h1 h2 own oth h3 h4
  rw [h.1 _ (by omega)]
  exact ht r h1 h2 own oth h3 h4
theorem zRw_e {rn : Nat} {wf g : Nat → Int32} (h : zRw rn 225 wf g) (ht : zTb rn wf) : zTb (rn + 1) g := by
  intro r h1 h2 own oth h3 h4
  rcases Nat.lt_or_ge rn r with h5 | h5
  · have e : r = rn + 1 := by omega
    subst e
    have := h.2 (own * 15 + oth) (by omega)
    rw [show (own * 15 + oth) / 15 = own by omega, show (own * 15 + oth) % 15 = oth by omega] at this
    rw [show (rn + 1 - 1) * 225 + own * 15 + oth = rn * 225 + (own * 15 + oth) by omega]
    exact this
  · exact zRw_t h ht r h1 (by omega) own oth h3 h4
theorem zmin60 {r : Nat} (h : r ≤ 60) : (if (60 : Int32) < nI r then 60 else nI r) = nI r := if_neg (fun h9 => absurd ((nI_ltI (a := 60) (b := r) (by omega) (by omega)).mp h9) (by omega))
set_option maxHeartbeats 4000000 in
set_option maxRecDepth 100000 in
theorem c_X1_fillRow (l : Launch) (dC : Nat → ClassId) (dI : Nat → Nat → Nat) (cyI cyJ : ClassId) (tb : Nat) (ae at_ : Nat) (rh : Int32) (wf : Nat → Int32) (rn : Nat) (hrn : rn < 60) (htb : zTb rn wf) (hnd : [ae, at_].Nodup) : Met l yX1_fillRow wsX1_fillRow ({ frames := 4, cells := 0, slots := 0, locals := 105 }) (zPc [.ref ae, .int (nI (rn + 1))] (dC, dI) vwCl [(cyI, .int), (cyJ, .long)] [(ae, .inr (0, [.ref at_, .int rh])), (at_, .inl (cyI, 13500, .inl wf))] (fun U => zX tb (zA [ae, at_]) U U.heap)) (va_Qv (fun u => zTb (rn + 1) u) (fun (u : Nat → Int32) t => va_P (dC, dI) vwCl ([(ae, .inr (0, [.ref at_, .int rh])), (at_, .inl (cyI, 13500, .inl u))]) t.heap) (zA [ae, at_])) 0 0 (zA [ae, at_]) := by
  refine Met.ofW (cc := cX1_fillRow) (maxL := 5) (ret := none) (by decide) rfl ?_
  intro p e s m args below meth c s₁ B hml hv
  obtain ⟨rfl, hP, hK, hX⟩ := hv
  have hx := B.exec
  have hb := B.bytes
  have hr := B.returns
  have hts := atoms_spec (ws := wsX1_fillRow) B.pre
  have hown : s.vm.findClass RX1 = some m.cls := findClass_of_methodNamed B.named
  have hlocks := B.notSynchronized
  have hinX1 : ∀ w ∈ wsX10, w ∈ wsX1_fillRow := by decide +kernel
  have hl := lv_entry ([.ref ae, .int (nI (rn + 1))]) (n := 5) (Nat.le_of_ble_eq_true rfl)
  rw [lg_entry_eq]
  generalize (lg_sl ([.ref ae, .int (nI (rn + 1))]) ++ List.replicate (5 - (lg_sl ([.ref ae, .int (nI (rn + 1))])).length) Slot.unset).toArray = ls at hl ⊢
  have hl : lv_has ls 5 [(0, .ref ae), (1, .int (nI (rn + 1)))] := hl
  have hS : va_S (zA [ae, at_]) s.heap s.heap [] := va_S.rf
  have hDD : zD (zA [ae, at_]) [ae, at_] := ⟨hnd, fun _ h => h⟩
  generalize hQe : MQ below _ _ _ _ _ _ = Q
  refine lv_iload_n hx hb dX1_fillRow_0 rfl (lv_at hl 1 rfl) ?_
  refine lv_iconst (v := 1) hx hb dX1_fillRow_1 (by decide) ?_
  refine lv_isub hx hb dX1_fillRow_2 ?_
  refine zz_i (y := nI rn) (nI_pred rn) ?_
  refine lv_sipush (v := 225) hx hb dX1_fillRow_3 (by decide) ?_
  refine lv_imul hx hb dX1_fillRow_6 ?_
  refine zz_i (y := nI (rn * 225)) (pk_mul rn 225) ?_
  refine lv_istore_n (lv' := [(2, .int (nI (rn * 225))), (0, .ref ae), (1, .int (nI (rn + 1)))]) hx hb dX1_fillRow_7 rfl hl (by decide) rfl (fun ls hl => ?_)
  refine lv_iconst (v := 0) hx hb dX1_fillRow_8 (by decide) ?_
  refine lv_istore_n (lv' := [(3, .int 0), (2, .int (nI (rn * 225))), (0, .ref ae), (1, .int (nI (rn + 1)))]) hx hb dX1_fillRow_9 rfl hl (by decide) rfl (fun ls hl => ?_)
  have lpo : ∀ (n9 : Nat) (i : Nat) (q : Nat) (g : Nat → Int32), i ≤ 15 → q = i * 15 → zRw rn q wf g → 15 - i < n9 → ∀ (H : Heap) (locs : List Loc), va_P (dC, dI) vwCl [(ae, .inr (0, [.ref at_, .int rh])), (at_, .inl (cyI, 13500, .inl g))] H → va_S (zA [ae, at_]) s.heap H locs → ∀ ls : Array Slot, lv_has ls 5 [(3, .int (nI i)), (2, .int (nI (rn * 225 + q))), (0, .ref ae), (1, .int (nI (rn + 1)))] → W p l e (headSpec wsX1_fillRow ({ frames := 4, cells := 0, slots := 0, locals := 105 })).room s m ([.ref ae, .int (nI (rn + 1))] : List Value).toArray below meth c H locs 0 0 Q (F0 m 10 ls []) := by
    intro n9
    induction n9 with
    | zero => intro i q g hi2 hq hg hm9; exact absurd hm9 (Nat.not_lt_zero _)
    | succ n9 ih10 =>
      intro i q g hi2 hq hg hm9 H locs hP hS ls hl
      refine lv_iload_n hx hb dX1_fillRow_10 rfl (lv_at hl 0 rfl) ?_
      refine lv_bipush (v := 15) hx hb dX1_fillRow_11 (by decide) ?_
      refine lv_icmp_ge (tgt := 71) hx hb dX1_fillRow_13 (by decide) (fun c_13 => ?_) (fun c_13 => ?_)
      · skip
        have c_13 : 15 ≤ i := (nI_leI (a := 15) (b := i) (by omega) (by omega)).mp c_13
        subst hQe
        exact W.vret hx hb hr (fun t ht hW => ⟨⟨g, rfl, (by rw [show q = 225 by omega] at hg; exact zRw_e hg htb), zh ht hP⟩, hS.F ht⟩) hS.2.2 dX1_fillRow_71
      · skip
        have c_13 : ¬ 15 ≤ i := fun h9 => c_13 ((nI_leI (a := 15) (b := i) (by omega) (by omega)).mpr h9)
        refine lv_iconst (v := 0) hx hb dX1_fillRow_16 (by decide) ?_
        refine lv_istore (lv' := [(4, .int 0), (3, .int (nI i)), (2, .int (nI (rn * 225 + q))), (0, .ref ae), (1, .int (nI (rn + 1)))]) hx hb dX1_fillRow_17 hl (by decide) rfl (fun ls hl => ?_)
        have lpi : ∀ (n9 : Nat) (j : Nat) (q : Nat) (g : Nat → Int32), j ≤ 15 → q = i * 15 + j → zRw rn q wf g → 15 - j < n9 → ∀ (H : Heap) (locs : List Loc), va_P (dC, dI) vwCl [(ae, .inr (0, [.ref at_, .int rh])), (at_, .inl (cyI, 13500, .inl g))] H → va_S (zA [ae, at_]) s.heap H locs → ∀ ls : Array Slot, lv_has ls 5 [(4, .int (nI j)), (3, .int (nI i)), (2, .int (nI (rn * 225 + q))), (0, .ref ae), (1, .int (nI (rn + 1)))] → W p l e (headSpec wsX1_fillRow ({ frames := 4, cells := 0, slots := 0, locals := 105 })).room s m ([.ref ae, .int (nI (rn + 1))] : List Value).toArray below meth c H locs 0 0 Q (F0 m 19 ls []) := by
          intro n9
          induction n9 with
          | zero => intro j q g hj2 hq hg hm9; exact absurd hm9 (Nat.not_lt_zero _)
          | succ n9 ih19 =>
            intro j q g hj2 hq hg hm9 H locs hP hS ls hl
            refine lv_iload hx hb dX1_fillRow_19 (lv_at hl 0 rfl) ?_
            refine lv_bipush (v := 15) hx hb dX1_fillRow_21 (by decide) ?_
            refine lv_icmp_ge (tgt := 65) hx hb dX1_fillRow_23 (by decide) (fun c_23 => ?_) (fun c_23 => ?_)
            · skip
              have c_23 : 15 ≤ j := (nI_leI (a := 15) (b := j) (by omega) (by omega)).mp c_23
              refine lv_iinc (v := nI (i + 1)) (lv' := [(3, .int (nI (i + 1))), (4, .int (nI j)), (2, .int (nI (rn * 225 + q))), (0, .ref ae), (1, .int (nI (rn + 1)))]) hx hb dX1_fillRow_65 hl (k := 1) rfl (nI_1 i) (by decide) rfl (fun ls hl => ?_)
              refine lv_goto (tgt := 10) hx hb dX1_fillRow_68 (by decide) ?_
              exact ih10 (i + 1) _ _ (by omega) (by omega) hg (by omega) _ _ hP hS _ (lv_sub hl [0, 2, 3, 4] rfl)
            · skip
              have c_23 : ¬ 15 ≤ j := fun h9 => c_23 ((nI_leI (a := 15) (b := j) (by omega) (by omega)).mpr h9)
              refine lv_iload_n hx hb dX1_fillRow_26 rfl (lv_at hl 2 rfl) ?_
              refine lv_if_lt (tgt := 56) hx hb dX1_fillRow_27 (by decide) (fun c_27 => ?_) (fun c_27 => ?_)
              · skip
                have c_27 : (rn * 225 + q) < 0 := (nI_ltI (a := rn * 225 + q) (b := 0) (by omega) (by omega)).mp c_27
                exact absurd c_27 (Nat.not_lt_zero _)
              · skip
                have c_27 : ¬ (rn * 225 + q) < 0 := fun h9 => c_27 ((nI_ltI (a := rn * 225 + q) (b := 0) (by omega) (by omega)).mpr h9)
                refine lv_iload_n hx hb dX1_fillRow_30 rfl (lv_at hl 2 rfl) ?_
                refine lv_aload_n hx hb dX1_fillRow_31 rfl (lv_at hl 3 rfl) ?_
                refine va_get (D := (dC, dI)) (ci := 0) (v := .ref at_) (C := RX1) (T := TX1) (N := 2) hx hb hts hinX1 hown hK hP 0 rfl rfl 0 (by decide) (hts (.fieldLink RX1 13 "RoyalUrTable$Endings" "worths" "[I") (List.mem_of_getElem? (i := 1) rfl)) (fun _ h9 => h9) rfl dX1_fillRow_32 ?_
                refine va_alen (v := 13500) hx hb hK hP 1 0 rfl rfl rfl dX1_fillRow_35 ?_
                refine lv_icmp_ge (tgt := 56) hx hb dX1_fillRow_36 (by decide) (fun c_36 => ?_) (fun c_36 => ?_)
                · skip
                  have c_36 : 13500 ≤ (rn * 225 + q) := (nI_leI (a := 13500) (b := rn * 225 + q) (by omega) (by omega)).mp c_36
                  exact absurd c_36 (by omega)
                · skip
                  have c_36 : ¬ 13500 ≤ (rn * 225 + q) := fun h9 => c_36 ((nI_leI (a := 13500) (b := rn * 225 + q) (by omega) (by omega)).mpr h9)
                  refine lv_aload_n hx hb dX1_fillRow_39 rfl (lv_at hl 3 rfl) ?_
                  refine va_get (D := (dC, dI)) (ci := 0) (v := .ref at_) (C := RX1) (T := TX1) (N := 2) hx hb hts hinX1 hown hK hP 0 rfl rfl 0 (by decide) (hts (.fieldLink RX1 13 "RoyalUrTable$Endings" "worths" "[I") (List.mem_of_getElem? (i := 1) rfl)) (fun _ h9 => h9) rfl dX1_fillRow_40 ?_
                  refine lv_iload_n hx hb dX1_fillRow_43 rfl (lv_at hl 2 rfl) ?_
                  refine lv_aload_n hx hb dX1_fillRow_44 rfl (lv_at hl 3 rfl) ?_
                  refine lv_iload_n hx hb dX1_fillRow_45 rfl (lv_at hl 1 rfl) ?_
                  refine lv_iload hx hb dX1_fillRow_46 (lv_at hl 0 rfl) ?_
                  refine lv_iload_n hx hb dX1_fillRow_48 rfl (lv_at hl 4 rfl) ?_
                  refine lv_iload_n hx hb dX1_fillRow_49 rfl (lv_at hl 4 rfl) ?_
                  refine lv_iconst (v := 1) hx hb dX1_fillRow_50 (by decide) ?_
                  refine lv_isub hx hb dX1_fillRow_51 ?_
                  refine zz_i (y := nI rn) (nI_pred rn) ?_
                  refine zro_i (va_runV (As := [.int (nI i), .int (nI j), .int (nI (rn + 1)), .int (nI rn)]) (rest := [.int (nI (rn * 225 + q)), .ref at_]) ⟨hx, hb, hml, hown, hts⟩ (c_X1_worthToThrow l dC dI cyI cyJ tb ae at_ rh g rn (by omega) (zRw_t hg htb) rn (by omega) 1 (by omega) i j (by omega) (by omega)) (cwV 4 hts gX1_fillRow_X1_worthToThrow rfl rfl rfl (by decide +kernel) ⟨Nat.le_of_ble_eq_true rfl, Nat.le_of_ble_eq_true rfl⟩) (zPc_V (ci := 0) (q0 := 0) zB_X hP hK rfl rfl [0, 1] rfl (zX_at hX hS zF_A)) rfl rfl hl.1 rfl (lv_room (Nat.le_of_ble_eq_true rfl)) dX1_fillRow_52 ⟨Nat.zero_le _, Nat.zero_le _⟩) hP hS (fun H locs hP hS => ?_)
                  refine zi_iast hx hb hK hP hDD hS 1 0 rfl rfl (j := rn * 225 + q) rfl (by omega) (by decide) dX1_fillRow_55 (fun H locs hP hS => ?_)
                  have hP : va_P (dC, dI) vwCl [(ae, .inr (0, [.ref at_, .int rh])), (at_, .inl (cyI, 13500, .inl (upd g (rn * 225 + q) (nI (zE (rn + 1) i j)))))] H := hP
                  refine lv_iinc (v := nI (rn * 225 + q + 1)) (lv' := [(2, .int (nI (rn * 225 + q + 1))), (4, .int (nI j)), (3, .int (nI i)), (0, .ref ae), (1, .int (nI (rn + 1)))]) hx hb dX1_fillRow_56 hl (k := 2) rfl (nI_1 (rn * 225 + q)) (by decide) rfl (fun ls hl => ?_)
                  refine lv_iinc (v := nI (j + 1)) (lv' := [(4, .int (nI (j + 1))), (2, .int (nI (rn * 225 + q + 1))), (3, .int (nI i)), (0, .ref ae), (1, .int (nI (rn + 1)))]) hx hb dX1_fillRow_59 hl (k := 1) rfl (nI_1 j) (by decide) rfl (fun ls hl => ?_)
                  refine lv_goto (tgt := 19) hx hb dX1_fillRow_62 (by decide) ?_
                  exact ih19 (j + 1) (q + 1) _ (by omega) (by omega) (zRw_s hg hq (by omega)) (by omega) _ _ hP hS _ (lv_sub hl [0, 2, 1, 3, 4] rfl)
        exact lpi 16 0 q g (by omega) (by omega) hg (by omega) _ _ hP hS _ (lv_sub hl [0, 1, 2, 3, 4] rfl)
  exact lpo 16 0 0 wf (by omega) (by omega) (zRw_0 rn wf) (by omega) _ _ hP hS _ (lv_sub hl [0, 1, 2, 3] rfl)

set_option maxHeartbeats 4000000 in
set_option maxRecDepth 100000 in
theorem c_X1_fillUpTo (l : Launch) (dC : Nat → ClassId) (dI : Nat → Nat → Nat) (cyI cyJ : ClassId) (tb : Nat) (ae at_ : Nat) (wf : Nat → Int32) (k rr : Nat) (hk : k ≤ 60) (hr9 : rr ≤ 60) (htb : zTb k wf) (hnd : [ae, at_].Nodup) : Met l yX1_fillUpTo wsX1_fillUpTo ({ frames := 5, cells := 0, slots := 0, locals := 129 }) (zPc [.ref ae, .int (nI rr)] (dC, dI) vwCl [(cyI, .int), (cyJ, .long)] [(ae, .inr (0, [.ref at_, .int (nI k)])), (at_, .inl (cyI, 13500, .inl wf))] (fun U => zX tb (zA [ae, at_]) U U.heap)) (va_Qv (fun u => zTb u.1 u.2 ∧ rr ≤ u.1 ∧ u.1 ≤ 60) (fun (u : Nat × (Nat → Int32)) t => va_P (dC, dI) vwCl ([(ae, .inr (0, [.ref at_, .int (nI u.1)])), (at_, .inl (cyI, 13500, .inl u.2))]) t.heap) (zA [ae, at_])) 0 0 (zA [ae, at_]) := by
  refine Met.ofW (cc := cX1_fillUpTo) (maxL := 4) (ret := none) (by decide) rfl ?_
  intro p e s m args below meth c s₁ B hml hv
  obtain ⟨rfl, hP, hK, hX⟩ := hv
  have hx := B.exec
  have hb := B.bytes
  have hr := B.returns
  have hts := atoms_spec (ws := wsX1_fillUpTo) B.pre
  have hown : s.vm.findClass RX1 = some m.cls := findClass_of_methodNamed B.named
  have hlocks := B.notSynchronized
  have hinX1 : ∀ w ∈ wsX10, w ∈ wsX1_fillUpTo := by decide +kernel
  have hl := lv_entry ([.ref ae, .int (nI rr)]) (n := 4) (Nat.le_of_ble_eq_true rfl)
  rw [lg_entry_eq]
  generalize (lg_sl ([.ref ae, .int (nI rr)]) ++ List.replicate (4 - (lg_sl ([.ref ae, .int (nI rr)])).length) Slot.unset).toArray = ls at hl ⊢
  have hl : lv_has ls 4 [(0, .ref ae), (1, .int (nI rr))] := hl
  have hS : va_S (zA [ae, at_]) s.heap s.heap [] := va_S.rf
  have hDD : zD (zA [ae, at_]) [ae, at_] := ⟨hnd, fun _ h => h⟩
  generalize hQe : MQ below _ _ _ _ _ _ = Q
  refine lv_iload_n hx hb dX1_fillUpTo_0 rfl (lv_at hl 1 rfl) ?_
  refine lv_bipush (v := 60) hx hb dX1_fillUpTo_1 (by decide) ?_
  refine va_mmin hx hb (hml.trans hl.1.symm) hown (hts (.methodLink RX1 17 Lib.Math.min.name) (List.mem_of_getElem? (i := 1) rfl)) (hts (.static Lib.Math.min.name) (List.mem_of_getElem? (i := 2) rfl)) (hts (.initialized "java/lang/Math") (List.mem_of_getElem? (i := 3) rfl)) (hts (.code Lib.Math.min.name Lib.Math.min.code 2 (some .int)) (List.mem_of_getElem? (i := 4) rfl)) (Nat.le_of_ble_eq_true rfl) (Nat.le_of_ble_eq_true rfl) (Nat.zero_le _) (Nat.zero_le _) dX1_fillUpTo_3 ?_
  refine zz_i (y := nI rr) (zmin60 hr9) ?_
  refine lv_istore_n (lv' := [(2, .int (nI rr)), (0, .ref ae), (1, .int (nI rr))]) hx hb dX1_fillUpTo_6 rfl hl (by decide) rfl (fun ls hl => ?_)
  refine lv_aload_n hx hb dX1_fillUpTo_7 rfl (lv_at hl 1 rfl) ?_
  refine va_get (D := (dC, dI)) (ci := 0) (v := .int (nI k)) (C := RX1) (T := TX1) (N := 2) hx hb hts hinX1 hown hK hP 0 rfl rfl 1 (by decide) (hts (.fieldLink RX1 23 "RoyalUrTable$Endings" "roundsHeld" "I") (List.mem_of_getElem? (i := 5) rfl)) (fun _ h9 => h9) rfl dX1_fillUpTo_8 ?_
  refine lv_iconst (v := 1) hx hb dX1_fillUpTo_11 (by decide) ?_
  refine lv_iadd hx hb dX1_fillUpTo_12 ?_
  refine zz_i (y := nI (k + 1)) (nI_add k 1) ?_
  refine lv_istore_n (lv' := [(3, .int (nI (k + 1))), (2, .int (nI rr)), (0, .ref ae), (1, .int (nI rr))]) hx hb dX1_fillUpTo_13 rfl hl (by decide) rfl (fun ls hl => ?_)
  have lp : ∀ (n9 : Nat) (q : Nat) (g : Nat → Int32), q ≤ 60 → zTb q g → 60 - q < n9 → ∀ (H : Heap) (locs : List Loc), va_P (dC, dI) vwCl [(ae, .inr (0, [.ref at_, .int (nI q)])), (at_, .inl (cyI, 13500, .inl g))] H → va_S (zA [ae, at_]) s.heap H locs → ∀ ls : Array Slot, lv_has ls 4 [(3, .int (nI (q + 1))), (2, .int (nI rr)), (0, .ref ae), (1, .int (nI rr))] → W p l e (headSpec wsX1_fillUpTo ({ frames := 5, cells := 0, slots := 0, locals := 129 })).room s m ([.ref ae, .int (nI rr)] : List Value).toArray below meth c H locs 0 0 Q (F0 m 14 ls []) := by
    intro n9
    induction n9 with
    | zero => intro q g hq6 hq hm9; exact absurd hm9 (Nat.not_lt_zero _)
    | succ n9 ih14 =>
      intro q g hq6 hq hm9 H locs hP hS ls hl
      refine lv_iload_n hx hb dX1_fillUpTo_14 rfl (lv_at hl 0 rfl) ?_
      refine lv_iload_n hx hb dX1_fillUpTo_15 rfl (lv_at hl 1 rfl) ?_
      refine lv_icmp_gt (tgt := 35) hx hb dX1_fillUpTo_16 (by decide) (fun c_16 => ?_) (fun c_16 => ?_)
      · skip
        have c_16 : rr < (q + 1) := (nI_ltI (a := rr) (b := q + 1) (by omega) (by omega)).mp c_16
        subst hQe
        exact W.vret hx hb hr (fun t ht hW => ⟨⟨(q, g), rfl, ⟨hq, (by omega), hq6⟩, zh ht hP⟩, hS.F ht⟩) hS.2.2 dX1_fillUpTo_35
      · skip
        have c_16 : ¬ rr < (q + 1) := fun h9 => c_16 ((nI_ltI (a := rr) (b := q + 1) (by omega) (by omega)).mpr h9)
        refine lv_aload_n hx hb dX1_fillUpTo_19 rfl (lv_at hl 2 rfl) ?_
        refine lv_iload_n hx hb dX1_fillUpTo_20 rfl (lv_at hl 0 rfl) ?_
        refine zrw_v (w1 := fun u => [(ae, .inr (0, [.ref at_, .int (nI q)])), (at_, .inl (cyI, 13500, .inl u))]) (al := [ae, at_]) (va_runV (As := [.int (nI (q + 1))]) (rest := []) ⟨hx, hb, hml, hown, hts⟩ (c_X1_fillRow l dC dI cyI cyJ tb ae at_ (nI q) g q (by omega) hq hDD.1) (cwV 1 hts gX1_fillUpTo_X1_fillRow rfl rfl rfl (by decide +kernel) ⟨Nat.le_of_ble_eq_true rfl, Nat.le_of_ble_eq_true rfl⟩) (zPc_V (ci := 0) (q0 := 0) zB_X hP hK rfl rfl [0, 1] rfl (zX_at hX hS (fun _ h => h))) rfl rfl hl.1 rfl (lv_room (Nat.le_of_ble_eq_true rfl)) dX1_fillUpTo_21 ⟨Nat.zero_le _, Nat.zero_le _⟩) hP hDD hS [0, 1] rfl (fun _ => rfl) (fun u_21 H locs hw_21 hP hS => ?_)
        have hP : va_P (dC, dI) vwCl [(ae, .inr (0, [.ref at_, .int (nI q)])), (at_, .inl (cyI, 13500, .inl u_21))] H := hP
        refine lv_aload_n hx hb dX1_fillUpTo_24 rfl (lv_at hl 2 rfl) ?_
        refine lv_iload_n hx hb dX1_fillUpTo_25 rfl (lv_at hl 0 rfl) ?_
        refine va_put (D := (dC, dI)) (ci := 0) (v := .int (nI (q + 1))) (ty := .int) (C := RX1) (T := TX1) (N := 2) hx hb hts hinX1 tyX1 tyX1_ok nmX1 hown hK hP (hDD.va rfl) hS 0 rfl rfl 1 (by decide) (hts (.fieldLink RX1 23 "RoyalUrTable$Endings" "roundsHeld" "I") (List.mem_of_getElem? (i := 5) rfl)) (fun _ h9 => h9) rfl (by decide +kernel) rfl rfl (Nat.le_of_ble_eq_true rfl) dX1_fillUpTo_26 (fun H locs hP hD9 hS => ?_)
        have hP : va_P (dC, dI) vwCl [(ae, .inr (0, [.ref at_, .int (nI (q + 1))])), (at_, .inl (cyI, 13500, .inl u_21))] H := hP
        refine lv_iinc (v := nI (q + 1 + 1)) (lv' := [(3, .int (nI (q + 1 + 1))), (2, .int (nI rr)), (0, .ref ae), (1, .int (nI rr))]) hx hb dX1_fillUpTo_29 hl (k := 0) rfl (nI_1 (q + 1)) (by decide) rfl (fun ls hl => ?_)
        refine lv_goto (tgt := 14) hx hb dX1_fillUpTo_32 (by decide) ?_
        exact ih14 (q + 1) _ (by omega) hw_21 (by omega) _ _ hP hS _ (lv_sub hl [0, 1, 2, 3] rfl)
  exact lp 61 k wf (by omega) htb (by omega) _ _ hP hS _ (lv_sub hl [0, 1, 2, 3] rfl)
end
section
/-! the class looks ahead: the lead, the places, the worths -/
def zLd (a b : Nat) : Int32 := nI (psum a 16) - nI (psum b 16)
theorem zi_ring1 (x y z : Int32) : x - y + z = (x + z) - y := by grind
theorem zi_ring2 (x y : Int32) : -(x - y) = y - x := by grind
theorem zi_ring3 (c h x y : Int32) : h + c * (x - y) = (h + c * x) - c * y := by grind
theorem zi_ring4 (x y z : Int32) : x - (y + z) + z = x - y := by grind
theorem zLd_neg (a b : Nat) : -(zLd a b) = zLd b a := zi_ring2 _ _
theorem zLd_own {a a' b m : Nat} (h : psum a' 16 = psum a 16 + m) : zLd a b + nI m = zLd a' b := by
  unfold zLd
  rw [h, zi_ring1, nI_add]
theorem zLd_oth {a b b' m : Nat} (h : psum b 16 = psum b' 16 + m) : zLd a b + nI m = zLd a b' := by
  unfold zLd
  rw [h, ← nI_add, zi_ring4]
theorem zlead {a b : Nat} (ha : psum a 16 ≤ 60) (hb : psum b 16 ≤ 60) : 500000000 + 4000000 * zLd a b = nI (500000000 + 4000000 * psum a 16 - 4000000 * psum b 16) := by
  rw [← pk_sub (by omega), ← nI_add, ← pk_mul, ← pk_mul]
  exact zi_ring3 _ _ _ _
theorem zfs_ex (n : Nat) : ∀ j p, (∃ q, p ≤ q ∧ q < p + j ∧ dg n q ≠ 0) → zfs n p j < p + j := by
  intro j
  induction j with
  | zero => intro p h; obtain ⟨q, h1, h2, -⟩ := h; omega
  | succ j ih =>
    intro p h
    rw [zfs_s]
    split
    · rename_i h0
      obtain ⟨q, h1, h2, h3⟩ := h
      have := ih (p + 1) ⟨q, by rcases Nat.lt_or_ge p q with h4 | h4; exact h4; exact absurd (by rw [show q = p by omega]; exact h0) h3, by omega, h3⟩
      omega
    · omega
theorem dsum_ex (n : Nat) : ∀ j, dsum n j ≠ 0 → ∃ q, q < j ∧ dg n q ≠ 0 := by
  intro j
  induction j with
  | zero => intro h; exact absurd rfl h
  | succ j ih =>
    intro h
    by_cases h1 : dsum n j = 0
    · refine ⟨j, by omega, fun h2 => h ?_⟩
      show dsum n j + dg n j = 0
      omega
    · obtain ⟨q, h2, h3⟩ := ih h1
      exact ⟨q, by omega, h3⟩
theorem zfs_lt {k n : Nat} (h : zok k n) (h1 : 1 ≤ k) (h2 : dg n 15 = k - 1) : zfs n 0 15 < 15 := by
  have h3 : dsum n 15 + dg n 15 = k := h.2.2
  obtain ⟨q, h4, h5⟩ := dsum_ex n 15 (by omega)
  have := zfs_ex n 15 0 ⟨q, Nat.zero_le _, by omega, h5⟩
  omega
theorem zmaxI {n : Nat} (h : 1 ≤ n) (h2 : n < 2 ^ 31) : (if nI n < 1 then 1 else nI n) = nI n := if_neg (fun h9 => absurd ((nI_ltI (a := n) (b := 1) (by omega) (by omega)).mp h9) (by omega))
theorem zminI {n : Nat} (h : n ≤ 999999999) : (if (999999999 : Int32) < nI n then 999999999 else nI n) = nI n := if_neg (fun h9 => absurd ((nI_ltI (a := 999999999) (b := n) (by omega) (by omega)).mp h9) (by omega))
theorem zHas_s (own oth m j : Nat) : zHas own oth m (j + 1) = (zHas own oth m j || zcm own oth j m) := rfl
theorem zBst_s (g : Nat → Nat) (own oth m j : Nat) : zBst g own oth m (j + 1) = if zcm own oth j m = true then max (zBst g own oth m j) (g j) else zBst g own oth m j := rfl
/-- the best so far, or none -/
def zBI (g : Nat → Nat) (own oth m j : Nat) (b : Int32) : Prop := (zHas own oth m j = false ∧ zBst g own oth m j = 0 ∧ b = -1) ∨ (zHas own oth m j = true ∧ b = nI (zBst g own oth m j))
theorem zBI_n {g : Nat → Nat} {own oth m j : Nat} {b : Int32} (h : zBI g own oth m j b) (c : zcm own oth j m = false) : zBI g own oth m (j + 1) b := by
  unfold zBI
  rw [zHas_s, zBst_s, c, if_neg (by decide), Bool.or_false]
  exact h
theorem zBI_y {g : Nat → Nat} {own oth m j : Nat} {b : Int32} (h : zBI g own oth m j b) (hg : ∀ a, g a ≤ 1000000000) (c : zcm own oth j m = true) : zBI g own oth m (j + 1) (if b < nI (g j) then nI (g j) else b) := by
  refine Or.inr ⟨by rw [zHas_s, c, Bool.or_true], ?_⟩
  rw [zBst_s, if_pos c]
  have h1 := hg j
  rcases h with ⟨-, h2, h3⟩ | ⟨-, h3⟩
  · rw [h2, h3, if_pos (by rw [Int32.lt_iff_toInt_lt, nI_toInt (by omega)]; show (-1 : Int) < _; omega), Nat.zero_max]
  · have h4 := zBst_le hg own oth m j
    rw [h3]
    by_cases h5 : zBst g own oth m j < g j
    · rw [if_pos ((nI_ltI (by omega) (by omega)).mpr h5), Nat.max_eq_right (by omega)]
    · rw [if_neg (fun h9 => h5 ((nI_ltI (by omega) (by omega)).mp h9)), Nat.max_eq_left (by omega)]
theorem zBI_0 (g : Nat → Nat) (own oth m : Nat) : zBI g own oth m 0 (-1) := Or.inl ⟨rfl, rfl, rfl⟩
theorem zBI_t {g : Nat → Nat} {own oth m j : Nat} {b : Int32} (h : zBI g own oth m j b) (c : ¬ b = -1) : zHas own oth m j = true ∧ b = nI (zBst g own oth m j) := by
  rcases h with ⟨-, -, h3⟩ | h
  · exact absurd h3 c
  · exact h
theorem zBI_f {g : Nat → Nat} {own oth m j : Nat} {b : Int32} (h : zBI g own oth m j b) (hg : ∀ a, g a ≤ 1000000000) (c : b = -1) : zHas own oth m j = false := by
  rcases h with ⟨h1, -, -⟩ | ⟨-, h2⟩
  · exact h1
  · exfalso
    have h4 := zBst_le hg own oth m j
    have h5 : (nI (zBst g own oth m j)).toInt = -1 := by rw [← h2, c]; rfl
    rw [nI_toInt (by omega)] at h5
    omega
set_option maxHeartbeats 4000000 in
set_option maxRecDepth 100000 in
theorem c_X5_worthAtOnce (l : Launch) (dC : Nat → ClassId) (dI : Nat → Nat → Nat) (cyI cyJ : ClassId) (tb ax a0 a1 ae aw at_ : Nat) (tI mk wn cnt rh : Int32) (wf : Nat → Int32) (k kk : Nat) (hk1 : 1 ≤ k) (hkk : kk ≤ 60) (h40 : 40 ≤ kk) (htb : zTb kk wf) (own oth : Nat) (hO : zok k own) (hQ : zok k oth) : Met l yX5_worthAtOnce wsX5_worthAtOnce ({ frames := 2, cells := 0, slots := 0, locals := 44 }) (zPc [.ref ax, .long (lN own), .long (lN oth), .int (zLd own oth)] (dC, dI) vwCl [(cyI, .int), (cyJ, .long)] [(ax, .inr (2, [.ref a0, .ref a1, .ref ae, .ref aw, .int (nI k), .int tI, .int mk, .int wn, .int cnt])), (ae, .inr (0, [.ref at_, .int rh])), (at_, .inl (cyI, 13500, .inl wf))] (fun _ => True)) (va_Qi (fun (r : Int32) (_ : Unit) => r = nI (zLf k own oth)) (fun _ _ => True) zF) 0 0 zF := by
  refine Met.ofW (cc := cX5_worthAtOnce) (maxL := 7) (ret := (some .int)) (by decide) rfl ?_
  intro p e s m args below meth c s₁ B hml hv
  obtain ⟨rfl, hP, hK, hX⟩ := hv
  have hx := B.exec
  have hb := B.bytes
  have hr := B.returns
  have hts := atoms_spec (ws := wsX5_worthAtOnce) B.pre
  have hown : s.vm.findClass RX5 = some m.cls := findClass_of_methodNamed B.named
  have hlocks := B.notSynchronized
  have hinX5 : ∀ w ∈ wsX50, w ∈ wsX5_worthAtOnce := by decide +kernel
  have hl := lv_entry ([.ref ax, .long (lN own), .long (lN oth), .int (zLd own oth)]) (n := 7) (Nat.le_of_ble_eq_true rfl)
  rw [lg_entry_eq]
  generalize (lg_sl ([.ref ax, .long (lN own), .long (lN oth), .int (zLd own oth)]) ++ List.replicate (7 - (lg_sl ([.ref ax, .long (lN own), .long (lN oth), .int (zLd own oth)])).length) Slot.unset).toArray = ls at hl ⊢
  have hl : lv_has ls 7 [(0, .ref ax), (1, .long (lN own)), (3, .long (lN oth)), (5, .int (zLd own oth))] := hl
  have hS : va_S zF s.heap s.heap [] := va_S.rf
  have hk4 := hO.1
  have hl1 := hO.lt
  have hl2 := hQ.lt
  have hp1 := hO.ps
  have hp2 := hQ.ps
  refine lv_aload_n hx hb dX5_worthAtOnce_0 rfl (lv_at hl 0 rfl) ?_
  refine va_get (D := (dC, dI)) (ci := 2) (v := .int (nI k)) (C := RX5) (T := TX5) (N := 9) hx hb hts hinX5 hown hK hP 0 rfl rfl 4 (by decide) (hts (.fieldLink RX5 135 "RoyalUrTable" "piecesOfEach" "I") (List.mem_of_getElem? (i := 1) rfl)) (fun _ h9 => h9) rfl dX5_worthAtOnce_1 ?_
  refine lv_iconst (v := 1) hx hb dX5_worthAtOnce_4 (by decide) ?_
  refine lv_isub hx hb dX5_worthAtOnce_5 ?_
  refine zz_i (y := nI (k - 1)) (pk_sub (a := k) (b := 1) (by omega)) ?_
  refine lv_istore (lv' := [(6, .int (nI (k - 1))), (0, .ref ax), (1, .long (lN own)), (3, .long (lN oth)), (5, .int (zLd own oth))]) hx hb dX5_worthAtOnce_6 hl (by decide) rfl (fun ls hl => ?_)
  refine lv_lload_n hx hb dX5_worthAtOnce_8 rfl (lv_at hl 2 rfl) ?_
  refine lv_bipush (v := 15) hx hb dX5_worthAtOnce_9 (by decide) ?_
  refine zro_i (va_runS (As := [.long (lN own), .int 15]) (rest := []) ⟨hx, hb, hml, hown, hts⟩ (c_X2_countAt l own (by omega) 15 (by omega)) (va_cwS 2 hts gX5_worthAtOnce_X2_countAt rfl rfl rfl (by decide +kernel) ⟨Nat.le_of_ble_eq_true rfl, Nat.le_of_ble_eq_true rfl⟩) zPu rfl rfl hl.1 rfl (lv_room (Nat.le_of_ble_eq_true rfl)) dX5_worthAtOnce_11 ⟨Nat.zero_le _, Nat.zero_le _⟩) hP hS (fun H locs hP hS => ?_)
  have hd_11 := dg_lt own 15
  refine lv_iload hx hb dX5_worthAtOnce_14 (lv_at hl 0 rfl) ?_
  refine lv_icmp_ne (tgt := 48) hx hb dX5_worthAtOnce_16 (by decide) (fun c_16 => ?_) (fun c_16 => ?_)
  · skip
    have c_16 : ¬ (dg own 15) = (k - 1) := fun h9 => c_16 ((nI_eq (a := dg own 15) (b := k - 1) (by omega) (by omega)).mpr h9)
    refine lv_ldc (v := 500000000) hx hb hown (hts (.constant RX5 179 (500000000)) (List.mem_of_getElem? (i := 3) rfl)) dX5_worthAtOnce_48 ?_
    refine lv_ldc (v := 4000000) hx hb hown (hts (.constant RX5 180 (4000000)) (List.mem_of_getElem? (i := 4) rfl)) dX5_worthAtOnce_50 ?_
    refine lv_iload hx hb dX5_worthAtOnce_52 (lv_at hl 4 rfl) ?_
    refine lv_imul hx hb dX5_worthAtOnce_54 ?_
    refine lv_iadd hx hb dX5_worthAtOnce_55 ?_
    refine zz_i (y := nI (500000000 + 4000000 * psum own 16 - 4000000 * psum oth 16)) (zlead hp1 hp2) ?_
    refine lv_iconst (v := 1) hx hb dX5_worthAtOnce_56 (by decide) ?_
    refine va_mmax hx hb (hml.trans hl.1.symm) hown (hts (.methodLink RX5 171 Lib.Math.max.name) (List.mem_of_getElem? (i := 5) rfl)) (hts (.static Lib.Math.max.name) (List.mem_of_getElem? (i := 6) rfl)) (hts (.initialized "java/lang/Math") (List.mem_of_getElem? (i := 7) rfl)) (hts (.code Lib.Math.max.name Lib.Math.max.code 2 (some .int)) (List.mem_of_getElem? (i := 8) rfl)) (Nat.le_of_ble_eq_true rfl) (Nat.le_of_ble_eq_true rfl) (Nat.zero_le _) (Nat.zero_le _) dX5_worthAtOnce_57 ?_
    refine zz_i (y := nI (500000000 + 4000000 * psum own 16 - 4000000 * psum oth 16)) (zmaxI (by omega) (by omega)) ?_
    refine lv_ldc (v := 999999999) hx hb hown (hts (.constant RX5 181 (999999999)) (List.mem_of_getElem? (i := 9) rfl)) dX5_worthAtOnce_60 ?_
    refine va_mmin hx hb (hml.trans hl.1.symm) hown (hts (.methodLink RX5 182 Lib.Math.min.name) (List.mem_of_getElem? (i := 10) rfl)) (hts (.static Lib.Math.min.name) (List.mem_of_getElem? (i := 11) rfl)) (hts (.initialized "java/lang/Math") (List.mem_of_getElem? (i := 7) rfl)) (hts (.code Lib.Math.min.name Lib.Math.min.code 2 (some .int)) (List.mem_of_getElem? (i := 12) rfl)) (Nat.le_of_ble_eq_true rfl) (Nat.le_of_ble_eq_true rfl) (Nat.zero_le _) (Nat.zero_le _) dX5_worthAtOnce_62 ?_
    refine zz_i (y := nI (500000000 + 4000000 * psum own 16 - 4000000 * psum oth 16)) (zminI (by omega)) ?_
    exact W.iret (v := nI (500000000 + 4000000 * psum own 16 - 4000000 * psum oth 16)) hx hb hr (fun t ht hW => ⟨⟨_, (), rfl, (by rw [zLf, if_neg (fun h => c_16 h.1)]; exact congrArg nI (by omega)), trivial⟩, hS.F ht⟩) hS.2.2 dX5_worthAtOnce_65
  · skip
    have c_16 : (dg own 15) = (k - 1) := (nI_eq (a := dg own 15) (b := k - 1) (by omega) (by omega)).mp c_16
    refine lv_lload_n hx hb dX5_worthAtOnce_19 rfl (lv_at hl 3 rfl) ?_
    refine lv_bipush (v := 15) hx hb dX5_worthAtOnce_20 (by decide) ?_
    refine zro_i (va_runS (As := [.long (lN oth), .int 15]) (rest := []) ⟨hx, hb, hml, hown, hts⟩ (c_X2_countAt l oth (by omega) 15 (by omega)) (va_cwS 2 hts gX5_worthAtOnce_X2_countAt rfl rfl rfl (by decide +kernel) ⟨Nat.le_of_ble_eq_true rfl, Nat.le_of_ble_eq_true rfl⟩) zPu rfl rfl hl.1 rfl (lv_room (Nat.le_of_ble_eq_true rfl)) dX5_worthAtOnce_22 ⟨Nat.zero_le _, Nat.zero_le _⟩) hP hS (fun H locs hP hS => ?_)
    have hd_22 := dg_lt oth 15
    refine lv_iload hx hb dX5_worthAtOnce_25 (lv_at hl 0 rfl) ?_
    refine lv_icmp_ne (tgt := 48) hx hb dX5_worthAtOnce_27 (by decide) (fun c_27 => ?_) (fun c_27 => ?_)
    · skip
      have c_27 : ¬ (dg oth 15) = (k - 1) := fun h9 => c_27 ((nI_eq (a := dg oth 15) (b := k - 1) (by omega) (by omega)).mpr h9)
      refine lv_ldc (v := 500000000) hx hb hown (hts (.constant RX5 179 (500000000)) (List.mem_of_getElem? (i := 3) rfl)) dX5_worthAtOnce_48 ?_
      refine lv_ldc (v := 4000000) hx hb hown (hts (.constant RX5 180 (4000000)) (List.mem_of_getElem? (i := 4) rfl)) dX5_worthAtOnce_50 ?_
      refine lv_iload hx hb dX5_worthAtOnce_52 (lv_at hl 4 rfl) ?_
      refine lv_imul hx hb dX5_worthAtOnce_54 ?_
      refine lv_iadd hx hb dX5_worthAtOnce_55 ?_
      refine zz_i (y := nI (500000000 + 4000000 * psum own 16 - 4000000 * psum oth 16)) (zlead hp1 hp2) ?_
      refine lv_iconst (v := 1) hx hb dX5_worthAtOnce_56 (by decide) ?_
      refine va_mmax hx hb (hml.trans hl.1.symm) hown (hts (.methodLink RX5 171 Lib.Math.max.name) (List.mem_of_getElem? (i := 5) rfl)) (hts (.static Lib.Math.max.name) (List.mem_of_getElem? (i := 6) rfl)) (hts (.initialized "java/lang/Math") (List.mem_of_getElem? (i := 7) rfl)) (hts (.code Lib.Math.max.name Lib.Math.max.code 2 (some .int)) (List.mem_of_getElem? (i := 8) rfl)) (Nat.le_of_ble_eq_true rfl) (Nat.le_of_ble_eq_true rfl) (Nat.zero_le _) (Nat.zero_le _) dX5_worthAtOnce_57 ?_
      refine zz_i (y := nI (500000000 + 4000000 * psum own 16 - 4000000 * psum oth 16)) (zmaxI (by omega) (by omega)) ?_
      refine lv_ldc (v := 999999999) hx hb hown (hts (.constant RX5 181 (999999999)) (List.mem_of_getElem? (i := 9) rfl)) dX5_worthAtOnce_60 ?_
      refine va_mmin hx hb (hml.trans hl.1.symm) hown (hts (.methodLink RX5 182 Lib.Math.min.name) (List.mem_of_getElem? (i := 10) rfl)) (hts (.static Lib.Math.min.name) (List.mem_of_getElem? (i := 11) rfl)) (hts (.initialized "java/lang/Math") (List.mem_of_getElem? (i := 7) rfl)) (hts (.code Lib.Math.min.name Lib.Math.min.code 2 (some .int)) (List.mem_of_getElem? (i := 12) rfl)) (Nat.le_of_ble_eq_true rfl) (Nat.le_of_ble_eq_true rfl) (Nat.zero_le _) (Nat.zero_le _) dX5_worthAtOnce_62 ?_
      refine zz_i (y := nI (500000000 + 4000000 * psum own 16 - 4000000 * psum oth 16)) (zminI (by omega)) ?_
      exact W.iret (v := nI (500000000 + 4000000 * psum own 16 - 4000000 * psum oth 16)) hx hb hr (fun t ht hW => ⟨⟨_, (), rfl, (by rw [zLf, if_neg (fun h => c_27 h.2)]; exact congrArg nI (by omega)), trivial⟩, hS.F ht⟩) hS.2.2 dX5_worthAtOnce_65
    · skip
      have c_27 : (dg oth 15) = (k - 1) := (nI_eq (a := dg oth 15) (b := k - 1) (by omega) (by omega)).mp c_27
      have hz1 := zfs_lt hO hk1 c_16
      have hz2 := zfs_lt hQ hk1 c_27
      refine lv_aload_n hx hb dX5_worthAtOnce_30 rfl (lv_at hl 1 rfl) ?_
      refine va_get (D := (dC, dI)) (ci := 2) (v := .ref ae) (C := RX5) (T := TX5) (N := 9) hx hb hts hinX5 hown hK hP 0 rfl rfl 2 (by decide) (hts (.fieldLink RX5 22 "RoyalUrTable" "endings" "LRoyalUrTable$Endings;") (List.mem_of_getElem? (i := 2) rfl)) (fun _ h9 => h9) rfl dX5_worthAtOnce_31 ?_
      refine lv_lload_n hx hb dX5_worthAtOnce_34 rfl (lv_at hl 2 rfl) ?_
      refine zro_i (va_runS (As := [.long (lN own)]) (rest := [.ref ae]) ⟨hx, hb, hml, hown, hts⟩ (c_X2_firstPlace l own (by omega)) (va_cwS 1 hts gX5_worthAtOnce_X2_firstPlace rfl rfl rfl (by decide +kernel) ⟨Nat.le_of_ble_eq_true rfl, Nat.le_of_ble_eq_true rfl⟩) zPu rfl rfl hl.1 rfl (lv_room (Nat.le_of_ble_eq_true rfl)) dX5_worthAtOnce_35 ⟨Nat.zero_le _, Nat.zero_le _⟩) hP hS (fun H locs hP hS => ?_)
      refine lv_lload_n hx hb dX5_worthAtOnce_38 rfl (lv_at hl 3 rfl) ?_
      refine zro_i (va_runS (As := [.long (lN oth)]) (rest := [.int (nI (zfs own 0 15)), .ref ae]) ⟨hx, hb, hml, hown, hts⟩ (c_X2_firstPlace l oth (by omega)) (va_cwS 1 hts gX5_worthAtOnce_X2_firstPlace rfl rfl rfl (by decide +kernel) ⟨Nat.le_of_ble_eq_true rfl, Nat.le_of_ble_eq_true rfl⟩) zPu rfl rfl hl.1 rfl (lv_room (Nat.le_of_ble_eq_true rfl)) dX5_worthAtOnce_39 ⟨Nat.zero_le _, Nat.zero_le _⟩) hP hS (fun H locs hP hS => ?_)
      refine lv_bipush (v := 40) hx hb dX5_worthAtOnce_42 (by decide) ?_
      refine zro_i (va_runV (As := [.int (nI (zfs own 0 15)), .int (nI (zfs oth 0 15)), .int 40]) (rest := []) ⟨hx, hb, hml, hown, hts⟩ (c_X1_held l dC dI cyI cyJ ae at_ rh wf kk hkk htb (zfs own 0 15) (zfs oth 0 15) 40 (by omega) (by omega) (by omega)) (cwV 3 hts gX5_worthAtOnce_X1_held rfl rfl rfl (by decide +kernel) ⟨Nat.le_of_ble_eq_true rfl, Nat.le_of_ble_eq_true rfl⟩) (zPc_V (ci := 0) (q0 := 1) zB_T hP hK rfl rfl [1, 2] rfl (fun _ _ _ => trivial)) rfl rfl hl.1 rfl (lv_room (Nat.le_of_ble_eq_true rfl)) dX5_worthAtOnce_44 ⟨Nat.zero_le _, Nat.zero_le _⟩) hP hS (fun H locs hP hS => ?_)
      exact W.iret (v := nI (zE 40 (zfs own 0 15) (zfs oth 0 15))) hx hb hr (fun t ht hW => ⟨⟨_, (), rfl, (by rw [zLf, if_pos ⟨c_16, c_27⟩]), trivial⟩, hS.F ht⟩) hS.2.2 dX5_worthAtOnce_47

set_option maxHeartbeats 4000000 in
set_option maxRecDepth 100000 in
theorem c_X5_worthBehindMove0 (l : Launch) (dC : Nat → ClassId) (dI : Nat → Nat → Nat) (cyI cyJ : ClassId) (tb ax a0 a1 ae aw at_ : Nat) (tI mk wn cnt rh : Int32) (wf : Nat → Int32) (k kk : Nat) (hk1 : 1 ≤ k) (hkk : kk ≤ 60) (h40 : 40 ≤ kk) (htb : zTb kk wf) (d : Nat) (hT : ∀ own oth : Nat, zok k own → zok k oth → Met l yX5_worthToThrow wsX5_worthToThrow ({ frames := 3 * d + 6, cells := 0, slots := 0, locals := 92 * d + 200 }) (zPc [.ref ax, .long (lN own), .long (lN oth), .int (zLd own oth), .int (nI d)] (dC, dI) vwCl [(cyI, .int), (cyJ, .long)] [(ax, .inr (2, [.ref a0, .ref a1, .ref ae, .ref aw, .int (nI k), .int tI, .int mk, .int wn, .int cnt])), (ae, .inr (0, [.ref at_, .int rh])), (at_, .inl (cyI, 13500, .inl wf))] (fun U => zX tb zF U U.heap)) (va_Qi (fun (r : Int32) (_ : Unit) => r = nI (zV k d own oth)) (fun _ _ => True) zF) 0 0 zF) (own oth fr mm : Nat) (hO : zok k own) (hQ : zok k oth) (hfr : fr ≤ 14) (hmm : mm ≤ 4) (hcm : zcm own oth fr mm = true) : Met l yX5_worthBehindMove wsX5_worthBehindMove ({ frames := 3 * d + 7, cells := 0, slots := 0, locals := 92 * d + 229 }) (zPc [.ref ax, .long (lN own), .long (lN oth), .int (zLd own oth), .int (nI fr), .int (nI mm), .int (nI d)] (dC, dI) vwCl [(cyI, .int), (cyJ, .long)] [(ax, .inr (2, [.ref a0, .ref a1, .ref ae, .ref aw, .int (nI k), .int tI, .int mk, .int wn, .int cnt])), (ae, .inr (0, [.ref at_, .int rh])), (at_, .inl (cyI, 13500, .inl wf))] (fun U => zX tb zF U U.heap)) (va_Qi (fun (r : Int32) (_ : Unit) => r = nI (zBM (zV k d) own oth fr mm)) (fun _ _ => True) zF) 0 0 zF := by
  refine Met.ofW (cc := cX5_worthBehindMove) (maxL := 15) (ret := (some .int)) (by decide) rfl ?_
  intro p e s m args below meth c s₁ B hml hv
  obtain ⟨rfl, hP, hK, hX⟩ := hv
  have hx := B.exec
  have hb := B.bytes
  have hr := B.returns
  have hts := atoms_spec (ws := wsX5_worthBehindMove) B.pre
  have hown : s.vm.findClass RX5 = some m.cls := findClass_of_methodNamed B.named
  have hlocks := B.notSynchronized
  have hl := lv_entry ([.ref ax, .long (lN own), .long (lN oth), .int (zLd own oth), .int (nI fr), .int (nI mm), .int (nI d)]) (n := 15) (Nat.le_of_ble_eq_true rfl)
  rw [lg_entry_eq]
  generalize (lg_sl ([.ref ax, .long (lN own), .long (lN oth), .int (zLd own oth), .int (nI fr), .int (nI mm), .int (nI d)]) ++ List.replicate (15 - (lg_sl ([.ref ax, .long (lN own), .long (lN oth), .int (zLd own oth), .int (nI fr), .int (nI mm), .int (nI d)])).length) Slot.unset).toArray = ls at hl ⊢
  have hl : lv_has ls 15 [(0, .ref ax), (1, .long (lN own)), (3, .long (lN oth)), (5, .int (zLd own oth)), (6, .int (nI fr)), (7, .int (nI mm)), (8, .int (nI d))] := hl
  have hS : va_S zF s.heap s.heap [] := va_S.rf
  have hk4 := hO.1
  have hl1 := hO.lt
  have hl2 := hQ.lt
  have hp1 := hO.ps
  have hp2 := hQ.ps
  obtain ⟨hm0, hd0, hto⟩ := zcm_spec hcm
  have hO2 : zok k (zsh own fr (fr + mm)) := zok_sh hO hd0 (by omega) (by omega) (by omega)
  have hl3 := hO2.lt
  have hps : psum (zsh own fr (fr + mm)) 16 = psum own 16 + mm := by have := psum_shk hO hd0 (by omega) hto (by omega); omega
  refine lv_iload hx hb dX5_worthBehindMove_0 (lv_at hl 4 rfl) ?_
  refine lv_iload hx hb dX5_worthBehindMove_2 (lv_at hl 5 rfl) ?_
  refine lv_iadd hx hb dX5_worthBehindMove_4 ?_
  refine zz_i (y := nI (fr + mm)) (nI_add fr mm) ?_
  refine lv_istore (lv' := [(9, .int (nI (fr + mm))), (0, .ref ax), (1, .long (lN own)), (3, .long (lN oth)), (5, .int (zLd own oth)), (6, .int (nI fr)), (7, .int (nI mm)), (8, .int (nI d))]) hx hb dX5_worthBehindMove_5 hl (by decide) rfl (fun ls hl => ?_)
  refine lv_lload_n hx hb dX5_worthBehindMove_7 rfl (lv_at hl 2 rfl) ?_
  refine lv_iload hx hb dX5_worthBehindMove_8 (lv_at hl 5 rfl) ?_
  refine lv_iload hx hb dX5_worthBehindMove_10 (lv_at hl 0 rfl) ?_
  refine zro_l (va_runS (As := [.long (lN own), .int (nI fr), .int (nI (fr + mm))]) (rest := []) ⟨hx, hb, hml, hown, hts⟩ (c_X2_shifted l own (by omega) fr (fr + mm) (by omega) (by omega) (dg_le hd0)) (va_cwS 3 hts gX5_worthBehindMove_X2_shifted rfl rfl rfl (by decide +kernel) ⟨(show 0 + 1 ≤ 3 * d + 7 by omega), (show 8 + (4 + 11) + 0 ≤ 92 * d + 229 by omega)⟩) zPu rfl rfl hl.1 rfl (lv_room (Nat.le_of_ble_eq_true rfl)) dX5_worthBehindMove_12 ⟨Nat.zero_le _, Nat.zero_le _⟩) hP hS (fun H locs hP hS => ?_)
  refine lv_lstore (lv' := [(10, .long (lN (zsh own fr (fr + mm)))), (9, .int (nI (fr + mm))), (0, .ref ax), (1, .long (lN own)), (3, .long (lN oth)), (5, .int (zLd own oth)), (6, .int (nI fr)), (7, .int (nI mm)), (8, .int (nI d))]) hx hb dX5_worthBehindMove_15 hl (by decide) rfl (fun ls hl => ?_)
  refine lv_lload hx hb dX5_worthBehindMove_17 (lv_at hl 0 rfl) ?_
  refine zro_i (va_runS (As := [.long (lN (zsh own fr (fr + mm)))]) (rest := []) ⟨hx, hb, hml, hown, hts⟩ (c_X2_isAllHome l (zsh own fr (fr + mm)) (by omega)) (va_cwS 1 hts gX5_worthBehindMove_X2_isAllHome rfl rfl rfl (by decide +kernel) ⟨(show 0 + 1 ≤ 3 * d + 7 by omega), (show 8 + (2 + 11) + 0 ≤ 92 * d + 229 by omega)⟩) zPu rfl rfl hl.1 rfl (lv_room (Nat.le_of_ble_eq_true rfl)) dX5_worthBehindMove_19 ⟨Nat.zero_le _, Nat.zero_le _⟩) hP hS (fun H locs hP hS => ?_)
  refine lv_if_eq (tgt := 28) hx hb dX5_worthBehindMove_22 (by decide) (fun c_22 => ?_) (fun c_22 => ?_)
  · skip
    have c_22 := bI_0.mp c_22
    refine lv_lload_n hx hb dX5_worthBehindMove_28 rfl (lv_at hl 4 rfl) ?_
    refine lv_lstore (lv' := [(12, .long (lN oth)), (10, .long (lN (zsh own fr (fr + mm)))), (9, .int (nI (fr + mm))), (0, .ref ax), (1, .long (lN own)), (3, .long (lN oth)), (5, .int (zLd own oth)), (6, .int (nI fr)), (7, .int (nI mm)), (8, .int (nI d))]) hx hb dX5_worthBehindMove_29 hl (by decide) rfl (fun ls hl => ?_)
    refine lv_iload hx hb dX5_worthBehindMove_31 (lv_at hl 6 rfl) ?_
    refine lv_iload hx hb dX5_worthBehindMove_33 (lv_at hl 8 rfl) ?_
    refine lv_iadd hx hb dX5_worthBehindMove_35 ?_
    refine zz_i (y := zLd (zsh own fr (fr + mm)) oth) (zLd_own hps) ?_
    refine lv_istore (lv' := [(14, .int (zLd (zsh own fr (fr + mm)) oth)), (12, .long (lN oth)), (10, .long (lN (zsh own fr (fr + mm)))), (9, .int (nI (fr + mm))), (0, .ref ax), (1, .long (lN own)), (3, .long (lN oth)), (5, .int (zLd own oth)), (6, .int (nI fr)), (7, .int (nI mm)), (8, .int (nI d))]) hx hb dX5_worthBehindMove_36 hl (by decide) rfl (fun ls hl => ?_)
    refine lv_lload_n hx hb dX5_worthBehindMove_38 rfl (lv_at hl 6 rfl) ?_
    refine lv_iload hx hb dX5_worthBehindMove_39 (lv_at hl 3 rfl) ?_
    refine zro_i (va_runS (As := [.long (lN oth), .int (nI (fr + mm))]) (rest := []) ⟨hx, hb, hml, hown, hts⟩ (c_X2_canBeTaken l oth (by omega) (fr + mm) (by omega)) (va_cwS 2 hts gX5_worthBehindMove_X2_canBeTaken rfl rfl rfl (by decide +kernel) ⟨(show 1 + 1 ≤ 3 * d + 7 by omega), (show 8 + (3 + 11) + 22 ≤ 92 * d + 229 by omega)⟩) zPu rfl rfl hl.1 rfl (lv_room (Nat.le_of_ble_eq_true rfl)) dX5_worthBehindMove_41 ⟨Nat.zero_le _, Nat.zero_le _⟩) hP hS (fun H locs hP hS => ?_)
    refine lv_if_eq (tgt := 63) hx hb dX5_worthBehindMove_44 (by decide) (fun c_44 => ?_) (fun c_44 => ?_)
    · skip
      have c_44 := bI_0.mp c_44
      refine lv_iload hx hb dX5_worthBehindMove_63 (lv_at hl 3 rfl) ?_
      refine zro_i (va_runS (As := [.int (nI (fr + mm))]) (rest := []) ⟨hx, hb, hml, hown, hts⟩ (c_X4_isRosette l (fr + mm) (by omega)) (va_cwS 1 hts gX5_worthBehindMove_X4_isRosette rfl rfl rfl (by decide +kernel) ⟨(show 0 + 1 ≤ 3 * d + 7 by omega), (show 8 + (1 + 11) + 0 ≤ 92 * d + 229 by omega)⟩) zPu rfl rfl hl.1 rfl (lv_room (Nat.le_of_ble_eq_true rfl)) dX5_worthBehindMove_65 ⟨Nat.zero_le _, Nat.zero_le _⟩) hP hS (fun H locs hP hS => ?_)
      refine lv_if_eq (tgt := 84) hx hb dX5_worthBehindMove_68 (by decide) (fun c_68 => ?_) (fun c_68 => ?_)
      · skip
        have c_68 := bI_0.mp c_68
        refine lv_ldc (v := 1000000000) hx hb hown (hts (.constant RX5 105 (1000000000)) (List.mem_of_getElem? (i := 1) rfl)) dX5_worthBehindMove_84 ?_
        refine lv_aload_n hx hb dX5_worthBehindMove_86 rfl (lv_at hl 4 rfl) ?_
        refine lv_lload hx hb dX5_worthBehindMove_87 (lv_at hl 1 rfl) ?_
        refine lv_lload hx hb dX5_worthBehindMove_89 (lv_at hl 2 rfl) ?_
        refine lv_iload hx hb dX5_worthBehindMove_91 (lv_at hl 0 rfl) ?_
        refine lv_ineg hx hb dX5_worthBehindMove_93 ?_
        refine zz_i (y := zLd oth (zsh own fr (fr + mm))) (zLd_neg _ _) ?_
        refine lv_iload hx hb dX5_worthBehindMove_94 (lv_at hl 10 rfl) ?_
        refine zro_i (va_runV (As := [.long (lN oth), .long (lN (zsh own fr (fr + mm))), .int (zLd oth (zsh own fr (fr + mm))), .int (nI d)]) (rest := [.int 1000000000]) ⟨hx, hb, hml, hown, hts⟩ (hT oth (zsh own fr (fr + mm)) hQ hO2) (cwV 4 hts gX5_worthBehindMove_X5_worthToThrow rfl rfl rfl (by decide +kernel) ⟨(show (3 * d + 6) + 1 ≤ 3 * d + 7 by omega), (show 8 + (10 + 11) + (92 * d + 200) ≤ 92 * d + 229 by omega)⟩) (zPc_V (ci := 2) (q0 := 0) zB_X hP hK rfl rfl [0, 1, 2] rfl (zX_at hX hS zF_A)) rfl rfl hl.1 rfl (lv_room (Nat.le_of_ble_eq_true rfl)) dX5_worthBehindMove_96 ⟨Nat.zero_le _, Nat.zero_le _⟩) hP hS (fun H locs hP hS => ?_)
        have hle_96 := zV_le k d oth (zsh own fr (fr + mm))
        refine lv_isub hx hb dX5_worthBehindMove_99 ?_
        refine zz_i (y := nI (1000000000 - (zV k d oth (zsh own fr (fr + mm))))) (pk_sub (a := 1000000000) (b := zV k d oth (zsh own fr (fr + mm))) (by omega)) ?_
        exact W.iret (v := nI (1000000000 - (zV k d oth (zsh own fr (fr + mm))))) hx hb hr (fun t ht hW => ⟨⟨_, (), rfl, (congrArg nI (by rw [zBM, if_neg (by rw [c_22]; decide), if_neg (by rw [c_68]; decide), if_neg (by rw [c_44]; decide)])), trivial⟩, hS.F ht⟩) hS.2.2 dX5_worthBehindMove_100
      · skip
        have c_68 := bI_1.mp c_68
        refine lv_aload_n hx hb dX5_worthBehindMove_71 rfl (lv_at hl 4 rfl) ?_
        refine lv_lload hx hb dX5_worthBehindMove_72 (lv_at hl 2 rfl) ?_
        refine lv_lload hx hb dX5_worthBehindMove_74 (lv_at hl 1 rfl) ?_
        refine lv_iload hx hb dX5_worthBehindMove_76 (lv_at hl 0 rfl) ?_
        refine lv_iload hx hb dX5_worthBehindMove_78 (lv_at hl 10 rfl) ?_
        refine zro_i (va_runV (As := [.long (lN (zsh own fr (fr + mm))), .long (lN oth), .int (zLd (zsh own fr (fr + mm)) oth), .int (nI d)]) (rest := []) ⟨hx, hb, hml, hown, hts⟩ (hT (zsh own fr (fr + mm)) oth hO2 hQ) (cwV 4 hts gX5_worthBehindMove_X5_worthToThrow rfl rfl rfl (by decide +kernel) ⟨(show (3 * d + 6) + 1 ≤ 3 * d + 7 by omega), (show 8 + (10 + 11) + (92 * d + 200) ≤ 92 * d + 229 by omega)⟩) (zPc_V (ci := 2) (q0 := 0) zB_X hP hK rfl rfl [0, 1, 2] rfl (zX_at hX hS zF_A)) rfl rfl hl.1 rfl (lv_room (Nat.le_of_ble_eq_true rfl)) dX5_worthBehindMove_80 ⟨Nat.zero_le _, Nat.zero_le _⟩) hP hS (fun H locs hP hS => ?_)
        have hle_80 := zV_le k d (zsh own fr (fr + mm)) oth
        exact W.iret (v := nI (zV k d (zsh own fr (fr + mm)) oth)) hx hb hr (fun t ht hW => ⟨⟨_, (), rfl, (congrArg nI (by rw [zBM, if_neg (by rw [c_22]; decide), if_pos c_68, if_neg (by rw [c_44]; decide)])), trivial⟩, hS.F ht⟩) hS.2.2 dX5_worthBehindMove_83
    · skip
      have c_44 := bI_1.mp c_44
      obtain ⟨ht5, ht12, htd⟩ := ztk_spec c_44
      have hQ2 : zok k (zsh oth (fr + mm) 0) := zok_sh hQ htd (by omega) (by omega) (by omega)
      have hl4 := hQ2.lt
      have hqs : psum oth 16 = psum (zsh oth (fr + mm) 0) 16 + (fr + mm) := by have := psum_shk hQ htd (by omega) (show 0 ≤ 15 by omega) (by omega); omega
      refine lv_lload_n hx hb dX5_worthBehindMove_47 rfl (lv_at hl 6 rfl) ?_
      refine lv_iload hx hb dX5_worthBehindMove_48 (lv_at hl 3 rfl) ?_
      refine lv_iconst (v := 0) hx hb dX5_worthBehindMove_50 (by decide) ?_
      refine zro_l (va_runS (As := [.long (lN oth), .int (nI (fr + mm)), .int 0]) (rest := []) ⟨hx, hb, hml, hown, hts⟩ (c_X2_shifted l oth (by omega) (fr + mm) 0 (by omega) (by omega) (dg_le htd)) (va_cwS 3 hts gX5_worthBehindMove_X2_shifted rfl rfl rfl (by decide +kernel) ⟨(show 0 + 1 ≤ 3 * d + 7 by omega), (show 8 + (4 + 11) + 0 ≤ 92 * d + 229 by omega)⟩) zPu rfl rfl hl.1 rfl (lv_room (Nat.le_of_ble_eq_true rfl)) dX5_worthBehindMove_51 ⟨Nat.zero_le _, Nat.zero_le _⟩) hP hS (fun H locs hP hS => ?_)
      refine lv_lstore (lv' := [(12, .long (lN (zsh oth (fr + mm) 0))), (14, .int (zLd (zsh own fr (fr + mm)) oth)), (10, .long (lN (zsh own fr (fr + mm)))), (9, .int (nI (fr + mm))), (0, .ref ax), (1, .long (lN own)), (3, .long (lN oth)), (5, .int (zLd own oth)), (6, .int (nI fr)), (7, .int (nI mm)), (8, .int (nI d))]) hx hb dX5_worthBehindMove_54 hl (by decide) rfl (fun ls hl => ?_)
      refine lv_iload hx hb dX5_worthBehindMove_56 (lv_at hl 1 rfl) ?_
      refine lv_iload hx hb dX5_worthBehindMove_58 (lv_at hl 3 rfl) ?_
      refine lv_iadd hx hb dX5_worthBehindMove_60 ?_
      refine zz_i (y := zLd (zsh own fr (fr + mm)) (zsh oth (fr + mm) 0)) (zLd_oth hqs) ?_
      refine lv_istore (lv' := [(14, .int (zLd (zsh own fr (fr + mm)) (zsh oth (fr + mm) 0))), (12, .long (lN (zsh oth (fr + mm) 0))), (10, .long (lN (zsh own fr (fr + mm)))), (9, .int (nI (fr + mm))), (0, .ref ax), (1, .long (lN own)), (3, .long (lN oth)), (5, .int (zLd own oth)), (6, .int (nI fr)), (7, .int (nI mm)), (8, .int (nI d))]) hx hb dX5_worthBehindMove_61 hl (by decide) rfl (fun ls hl => ?_)
      refine lv_iload hx hb dX5_worthBehindMove_63 (lv_at hl 3 rfl) ?_
      refine zro_i (va_runS (As := [.int (nI (fr + mm))]) (rest := []) ⟨hx, hb, hml, hown, hts⟩ (c_X4_isRosette l (fr + mm) (by omega)) (va_cwS 1 hts gX5_worthBehindMove_X4_isRosette rfl rfl rfl (by decide +kernel) ⟨(show 0 + 1 ≤ 3 * d + 7 by omega), (show 8 + (1 + 11) + 0 ≤ 92 * d + 229 by omega)⟩) zPu rfl rfl hl.1 rfl (lv_room (Nat.le_of_ble_eq_true rfl)) dX5_worthBehindMove_65 ⟨Nat.zero_le _, Nat.zero_le _⟩) hP hS (fun H locs hP hS => ?_)
      refine lv_if_eq (tgt := 84) hx hb dX5_worthBehindMove_68 (by decide) (fun c_68 => ?_) (fun c_68 => ?_)
      · skip
        have c_68 := bI_0.mp c_68
        refine lv_ldc (v := 1000000000) hx hb hown (hts (.constant RX5 105 (1000000000)) (List.mem_of_getElem? (i := 1) rfl)) dX5_worthBehindMove_84 ?_
        refine lv_aload_n hx hb dX5_worthBehindMove_86 rfl (lv_at hl 4 rfl) ?_
        refine lv_lload hx hb dX5_worthBehindMove_87 (lv_at hl 1 rfl) ?_
        refine lv_lload hx hb dX5_worthBehindMove_89 (lv_at hl 2 rfl) ?_
        refine lv_iload hx hb dX5_worthBehindMove_91 (lv_at hl 0 rfl) ?_
        refine lv_ineg hx hb dX5_worthBehindMove_93 ?_
        refine zz_i (y := zLd (zsh oth (fr + mm) 0) (zsh own fr (fr + mm))) (zLd_neg _ _) ?_
        refine lv_iload hx hb dX5_worthBehindMove_94 (lv_at hl 10 rfl) ?_
        refine zro_i (va_runV (As := [.long (lN (zsh oth (fr + mm) 0)), .long (lN (zsh own fr (fr + mm))), .int (zLd (zsh oth (fr + mm) 0) (zsh own fr (fr + mm))), .int (nI d)]) (rest := [.int 1000000000]) ⟨hx, hb, hml, hown, hts⟩ (hT (zsh oth (fr + mm) 0) (zsh own fr (fr + mm)) hQ2 hO2) (cwV 4 hts gX5_worthBehindMove_X5_worthToThrow rfl rfl rfl (by decide +kernel) ⟨(show (3 * d + 6) + 1 ≤ 3 * d + 7 by omega), (show 8 + (10 + 11) + (92 * d + 200) ≤ 92 * d + 229 by omega)⟩) (zPc_V (ci := 2) (q0 := 0) zB_X hP hK rfl rfl [0, 1, 2] rfl (zX_at hX hS zF_A)) rfl rfl hl.1 rfl (lv_room (Nat.le_of_ble_eq_true rfl)) dX5_worthBehindMove_96 ⟨Nat.zero_le _, Nat.zero_le _⟩) hP hS (fun H locs hP hS => ?_)
        have hle_96 := zV_le k d (zsh oth (fr + mm) 0) (zsh own fr (fr + mm))
        refine lv_isub hx hb dX5_worthBehindMove_99 ?_
        refine zz_i (y := nI (1000000000 - (zV k d (zsh oth (fr + mm) 0) (zsh own fr (fr + mm))))) (pk_sub (a := 1000000000) (b := zV k d (zsh oth (fr + mm) 0) (zsh own fr (fr + mm))) (by omega)) ?_
        exact W.iret (v := nI (1000000000 - (zV k d (zsh oth (fr + mm) 0) (zsh own fr (fr + mm))))) hx hb hr (fun t ht hW => ⟨⟨_, (), rfl, (congrArg nI (by rw [zBM, if_neg (by rw [c_22]; decide), if_neg (by rw [c_68]; decide), if_pos c_44])), trivial⟩, hS.F ht⟩) hS.2.2 dX5_worthBehindMove_100
      · skip
        have c_68 := bI_1.mp c_68
        refine lv_aload_n hx hb dX5_worthBehindMove_71 rfl (lv_at hl 4 rfl) ?_
        refine lv_lload hx hb dX5_worthBehindMove_72 (lv_at hl 2 rfl) ?_
        refine lv_lload hx hb dX5_worthBehindMove_74 (lv_at hl 1 rfl) ?_
        refine lv_iload hx hb dX5_worthBehindMove_76 (lv_at hl 0 rfl) ?_
        refine lv_iload hx hb dX5_worthBehindMove_78 (lv_at hl 10 rfl) ?_
        refine zro_i (va_runV (As := [.long (lN (zsh own fr (fr + mm))), .long (lN (zsh oth (fr + mm) 0)), .int (zLd (zsh own fr (fr + mm)) (zsh oth (fr + mm) 0)), .int (nI d)]) (rest := []) ⟨hx, hb, hml, hown, hts⟩ (hT (zsh own fr (fr + mm)) (zsh oth (fr + mm) 0) hO2 hQ2) (cwV 4 hts gX5_worthBehindMove_X5_worthToThrow rfl rfl rfl (by decide +kernel) ⟨(show (3 * d + 6) + 1 ≤ 3 * d + 7 by omega), (show 8 + (10 + 11) + (92 * d + 200) ≤ 92 * d + 229 by omega)⟩) (zPc_V (ci := 2) (q0 := 0) zB_X hP hK rfl rfl [0, 1, 2] rfl (zX_at hX hS zF_A)) rfl rfl hl.1 rfl (lv_room (Nat.le_of_ble_eq_true rfl)) dX5_worthBehindMove_80 ⟨Nat.zero_le _, Nat.zero_le _⟩) hP hS (fun H locs hP hS => ?_)
        have hle_80 := zV_le k d (zsh own fr (fr + mm)) (zsh oth (fr + mm) 0)
        exact W.iret (v := nI (zV k d (zsh own fr (fr + mm)) (zsh oth (fr + mm) 0))) hx hb hr (fun t ht hW => ⟨⟨_, (), rfl, (congrArg nI (by rw [zBM, if_neg (by rw [c_22]; decide), if_pos c_68, if_pos c_44])), trivial⟩, hS.F ht⟩) hS.2.2 dX5_worthBehindMove_83
  · skip
    have c_22 := bI_1.mp c_22
    refine lv_ldc (v := 1000000000) hx hb hown (hts (.constant RX5 105 (1000000000)) (List.mem_of_getElem? (i := 1) rfl)) dX5_worthBehindMove_25 ?_
    exact W.iret (v := 1000000000) hx hb hr (fun t ht hW => ⟨⟨_, (), rfl, (congrArg nI (by rw [zBM, if_pos c_22])), trivial⟩, hS.F ht⟩) hS.2.2 dX5_worthBehindMove_27

set_option maxHeartbeats 4000000 in
set_option maxRecDepth 100000 in
theorem c_X5_worthBehindThrow0 (l : Launch) (dC : Nat → ClassId) (dI : Nat → Nat → Nat) (cyI cyJ : ClassId) (tb ax a0 a1 ae aw at_ : Nat) (tI mk wn cnt rh : Int32) (wf : Nat → Int32) (k kk : Nat) (hk1 : 1 ≤ k) (hkk : kk ≤ 60) (h40 : 40 ≤ kk) (htb : zTb kk wf) (d : Nat) (hT : ∀ own oth : Nat, zok k own → zok k oth → Met l yX5_worthToThrow wsX5_worthToThrow ({ frames := 3 * d + 6, cells := 0, slots := 0, locals := 92 * d + 200 }) (zPc [.ref ax, .long (lN own), .long (lN oth), .int (zLd own oth), .int (nI d)] (dC, dI) vwCl [(cyI, .int), (cyJ, .long)] [(ax, .inr (2, [.ref a0, .ref a1, .ref ae, .ref aw, .int (nI k), .int tI, .int mk, .int wn, .int cnt])), (ae, .inr (0, [.ref at_, .int rh])), (at_, .inl (cyI, 13500, .inl wf))] (fun U => zX tb zF U U.heap)) (va_Qi (fun (r : Int32) (_ : Unit) => r = nI (zV k d own oth)) (fun _ _ => True) zF) 0 0 zF) (hM : ∀ own oth fr mm : Nat, zok k own → zok k oth → fr ≤ 14 → mm ≤ 4 → zcm own oth fr mm = true → Met l yX5_worthBehindMove wsX5_worthBehindMove ({ frames := 3 * d + 7, cells := 0, slots := 0, locals := 92 * d + 229 }) (zPc [.ref ax, .long (lN own), .long (lN oth), .int (zLd own oth), .int (nI fr), .int (nI mm), .int (nI d)] (dC, dI) vwCl [(cyI, .int), (cyJ, .long)] [(ax, .inr (2, [.ref a0, .ref a1, .ref ae, .ref aw, .int (nI k), .int tI, .int mk, .int wn, .int cnt])), (ae, .inr (0, [.ref at_, .int rh])), (at_, .inl (cyI, 13500, .inl wf))] (fun U => zX tb zF U U.heap)) (va_Qi (fun (r : Int32) (_ : Unit) => r = nI (zBM (zV k d) own oth fr mm)) (fun _ _ => True) zF) 0 0 zF) (own oth mm : Nat) (hO : zok k own) (hQ : zok k oth) (hmm : mm ≤ 4) : Met l yX5_worthBehindThrow wsX5_worthBehindThrow ({ frames := 3 * d + 8, cells := 0, slots := 0, locals := 92 * d + 263 }) (zPc [.ref ax, .long (lN own), .long (lN oth), .int (zLd own oth), .int (nI mm), .int (nI d)] (dC, dI) vwCl [(cyI, .int), (cyJ, .long)] [(ax, .inr (2, [.ref a0, .ref a1, .ref ae, .ref aw, .int (nI k), .int tI, .int mk, .int wn, .int cnt])), (ae, .inr (0, [.ref at_, .int rh])), (at_, .inl (cyI, 13500, .inl wf))] (fun U => zX tb zF U U.heap)) (va_Qi (fun (r : Int32) (_ : Unit) => r = nI (zBT (zV k d) own oth mm)) (fun _ _ => True) zF) 0 0 zF := by
  refine Met.ofW (cc := cX5_worthBehindThrow) (maxL := 10) (ret := (some .int)) (by decide) rfl ?_
  intro p e s m args below meth c s₁ B hml hv
  obtain ⟨rfl, hP, hK, hX⟩ := hv
  have hx := B.exec
  have hb := B.bytes
  have hr := B.returns
  have hts := atoms_spec (ws := wsX5_worthBehindThrow) B.pre
  have hown : s.vm.findClass RX5 = some m.cls := findClass_of_methodNamed B.named
  have hlocks := B.notSynchronized
  have hl := lv_entry ([.ref ax, .long (lN own), .long (lN oth), .int (zLd own oth), .int (nI mm), .int (nI d)]) (n := 10) (Nat.le_of_ble_eq_true rfl)
  rw [lg_entry_eq]
  generalize (lg_sl ([.ref ax, .long (lN own), .long (lN oth), .int (zLd own oth), .int (nI mm), .int (nI d)]) ++ List.replicate (10 - (lg_sl ([.ref ax, .long (lN own), .long (lN oth), .int (zLd own oth), .int (nI mm), .int (nI d)])).length) Slot.unset).toArray = ls at hl ⊢
  have hl : lv_has ls 10 [(0, .ref ax), (1, .long (lN own)), (3, .long (lN oth)), (5, .int (zLd own oth)), (6, .int (nI mm)), (7, .int (nI d))] := hl
  have hS : va_S zF s.heap s.heap [] := va_S.rf
  generalize hQe : MQ below _ _ _ _ _ _ = Q
  have hk4 := hO.1
  have hl1 := hO.lt
  have hl2 := hQ.lt
  have hp1 := hO.ps
  have hp2 := hQ.ps
  have hgl : ∀ a, (fun fr => zBM (zV k d) own oth fr mm) a ≤ 1000000000 := fun a => zBM_le (zV_le k d) _ _ _ _
  refine lv_iconst (v := -1) hx hb dX5_worthBehindThrow_0 (by decide) ?_
  refine lv_istore (lv' := [(8, .int (-1)), (0, .ref ax), (1, .long (lN own)), (3, .long (lN oth)), (5, .int (zLd own oth)), (6, .int (nI mm)), (7, .int (nI d))]) hx hb dX5_worthBehindThrow_1 hl (by decide) rfl (fun ls hl => ?_)
  refine lv_iconst (v := 0) hx hb dX5_worthBehindThrow_3 (by decide) ?_
  refine lv_istore (lv' := [(9, .int 0), (8, .int (-1)), (0, .ref ax), (1, .long (lN own)), (3, .long (lN oth)), (5, .int (zLd own oth)), (6, .int (nI mm)), (7, .int (nI d))]) hx hb dX5_worthBehindThrow_4 hl (by decide) rfl (fun ls hl => ?_)
  have lp : ∀ (n9 : Nat) (i : Nat) (b : Int32), i ≤ 15 → zBI (fun fr => zBM (zV k d) own oth fr mm) own oth mm i b → 15 - i < n9 → ∀ (H : Heap) (locs : List Loc), va_P (dC, dI) vwCl [(ax, .inr (2, [.ref a0, .ref a1, .ref ae, .ref aw, .int (nI k), .int tI, .int mk, .int wn, .int cnt])), (ae, .inr (0, [.ref at_, .int rh])), (at_, .inl (cyI, 13500, .inl wf))] H → va_S zF s.heap H locs → ∀ ls : Array Slot, lv_has ls 10 [(9, .int (nI i)), (8, .int b), (0, .ref ax), (1, .long (lN own)), (3, .long (lN oth)), (5, .int (zLd own oth)), (6, .int (nI mm)), (7, .int (nI d))] → W p l e (headSpec wsX5_worthBehindThrow ({ frames := 3 * d + 8, cells := 0, slots := 0, locals := 92 * d + 263 })).room s m ([.ref ax, .long (lN own), .long (lN oth), .int (zLd own oth), .int (nI mm), .int (nI d)] : List Value).toArray below meth c H locs 0 0 Q (F0 m 6 ls []) := by
    intro n9
    induction n9 with
    | zero => intro i b hi2 hb9 hm9; exact absurd hm9 (Nat.not_lt_zero _)
    | succ n9 ih6 =>
      intro i b hi2 hb9 hm9 H locs hP hS ls hl
      refine lv_iload hx hb dX5_worthBehindThrow_6 (lv_at hl 0 rfl) ?_
      refine lv_bipush (v := 14) hx hb dX5_worthBehindThrow_8 (by decide) ?_
      refine lv_icmp_gt (tgt := 52) hx hb dX5_worthBehindThrow_10 (by decide) (fun c_10 => ?_) (fun c_10 => ?_)
      · skip
        have c_10 : 14 < i := (nI_ltI (a := 14) (b := i) (by omega) (by omega)).mp c_10
        refine lv_iload hx hb dX5_worthBehindThrow_52 (lv_at hl 1 rfl) ?_
        refine lv_iconst (v := -1) hx hb dX5_worthBehindThrow_54 (by decide) ?_
        refine lv_icmp_eq (tgt := 63) hx hb dX5_worthBehindThrow_55 (by decide) (fun c_55 => ?_) (fun c_55 => ?_)
        · skip
          refine lv_ldc (v := 1000000000) hx hb hown (hts (.constant RX5 105 (1000000000)) (List.mem_of_getElem? (i := 5) rfl)) dX5_worthBehindThrow_63 ?_
          refine lv_aload_n hx hb dX5_worthBehindThrow_65 rfl (lv_at hl 2 rfl) ?_
          refine lv_lload_n hx hb dX5_worthBehindThrow_66 rfl (lv_at hl 4 rfl) ?_
          refine lv_lload_n hx hb dX5_worthBehindThrow_67 rfl (lv_at hl 3 rfl) ?_
          refine lv_iload hx hb dX5_worthBehindThrow_68 (lv_at hl 5 rfl) ?_
          refine lv_ineg hx hb dX5_worthBehindThrow_70 ?_
          refine zz_i (y := zLd oth own) (zLd_neg _ _) ?_
          refine lv_iload hx hb dX5_worthBehindThrow_71 (lv_at hl 7 rfl) ?_
          refine zro_i (va_runV (As := [.long (lN oth), .long (lN own), .int (zLd oth own), .int (nI d)]) (rest := [.int 1000000000]) ⟨hx, hb, hml, hown, hts⟩ (hT oth own hQ hO) (cwV 4 hts gX5_worthBehindThrow_X5_worthToThrow rfl rfl rfl (by decide +kernel) ⟨(show (3 * d + 6) + 1 ≤ 3 * d + 8 by omega), (show 8 + (10 + 11) + (92 * d + 200) ≤ 92 * d + 263 by omega)⟩) (zPc_V (ci := 2) (q0 := 0) zB_X hP hK rfl rfl [0, 1, 2] rfl (zX_at hX hS zF_A)) rfl rfl hl.1 rfl (lv_room (Nat.le_of_ble_eq_true rfl)) dX5_worthBehindThrow_73 ⟨Nat.zero_le _, Nat.zero_le _⟩) hP hS (fun H locs hP hS => ?_)
          have hle_73 := zV_le k d oth own
          refine lv_isub hx hb dX5_worthBehindThrow_76 ?_
          refine zz_i (y := nI (1000000000 - (zV k d oth own))) (pk_sub (a := 1000000000) (b := zV k d oth own) (by omega)) ?_
          subst hQe
          exact W.iret (v := nI (1000000000 - (zV k d oth own))) hx hb hr (fun t ht hW => ⟨⟨_, (), rfl, (by have h1 := zBI_f hb9 hgl c_55; rw [show i = 15 by omega] at h1; rw [zBT, if_neg (by rw [h1]; decide)]), trivial⟩, hS.F ht⟩) hS.2.2 dX5_worthBehindThrow_77
        · skip
          refine lv_iload hx hb dX5_worthBehindThrow_58 (lv_at hl 1 rfl) ?_
          refine lv_goto (tgt := 77) hx hb dX5_worthBehindThrow_60 (by decide) ?_
          subst hQe
          exact W.iret (v := b) hx hb hr (fun t ht hW => ⟨⟨_, (), rfl, (by obtain ⟨h1, h2⟩ := zBI_t hb9 c_55; rw [show i = 15 by omega] at h1 h2; rw [h2, zBT, if_pos h1]), trivial⟩, hS.F ht⟩) hS.2.2 dX5_worthBehindThrow_77
      · skip
        have c_10 : ¬ 14 < i := fun h9 => c_10 ((nI_ltI (a := 14) (b := i) (by omega) (by omega)).mpr h9)
        refine lv_lload_n hx hb dX5_worthBehindThrow_13 rfl (lv_at hl 3 rfl) ?_
        refine lv_lload_n hx hb dX5_worthBehindThrow_14 rfl (lv_at hl 4 rfl) ?_
        refine lv_iload hx hb dX5_worthBehindThrow_15 (lv_at hl 0 rfl) ?_
        refine lv_iload hx hb dX5_worthBehindThrow_17 (lv_at hl 6 rfl) ?_
        refine zro_i (va_runS (As := [.long (lN own), .long (lN oth), .int (nI i), .int (nI mm)]) (rest := []) ⟨hx, hb, hml, hown, hts⟩ (c_X2_canMove l own oth i mm (nI mm) hO.lt hQ.lt (by omega) (by omega) (Or.inl rfl)) (va_cwS 4 hts gX5_worthBehindThrow_X2_canMove rfl rfl rfl (by decide +kernel) ⟨(show 1 + 1 ≤ 3 * d + 8 by omega), (show 8 + (7 + 11) + 22 ≤ 92 * d + 263 by omega)⟩) zPu rfl rfl hl.1 rfl (lv_room (Nat.le_of_ble_eq_true rfl)) dX5_worthBehindThrow_19 ⟨Nat.zero_le _, Nat.zero_le _⟩) hP hS (fun H locs hP hS => ?_)
        refine lv_if_eq (tgt := 46) hx hb dX5_worthBehindThrow_22 (by decide) (fun c_22 => ?_) (fun c_22 => ?_)
        · skip
          have c_22 := bI_0.mp c_22
          refine lv_iinc (v := nI (i + 1)) (lv' := [(9, .int (nI (i + 1))), (8, .int b), (0, .ref ax), (1, .long (lN own)), (3, .long (lN oth)), (5, .int (zLd own oth)), (6, .int (nI mm)), (7, .int (nI d))]) hx hb dX5_worthBehindThrow_46 hl (k := 0) rfl (nI_1 i) (by decide) rfl (fun ls hl => ?_)
          refine lv_goto (tgt := 6) hx hb dX5_worthBehindThrow_49 (by decide) ?_
          exact ih6 (i + 1) _ (by omega) (zBI_n hb9 c_22) (by omega) _ _ hP hS _ (lv_sub hl [0, 1, 2, 3, 4, 5, 6, 7] rfl)
        · skip
          have c_22 := bI_1.mp c_22
          refine lv_iload hx hb dX5_worthBehindThrow_25 (lv_at hl 1 rfl) ?_
          refine lv_aload_n hx hb dX5_worthBehindThrow_27 rfl (lv_at hl 2 rfl) ?_
          refine lv_lload_n hx hb dX5_worthBehindThrow_28 rfl (lv_at hl 3 rfl) ?_
          refine lv_lload_n hx hb dX5_worthBehindThrow_29 rfl (lv_at hl 4 rfl) ?_
          refine lv_iload hx hb dX5_worthBehindThrow_30 (lv_at hl 5 rfl) ?_
          refine lv_iload hx hb dX5_worthBehindThrow_32 (lv_at hl 0 rfl) ?_
          refine lv_iload hx hb dX5_worthBehindThrow_34 (lv_at hl 6 rfl) ?_
          refine lv_iload hx hb dX5_worthBehindThrow_36 (lv_at hl 7 rfl) ?_
          refine zro_i (va_runV (As := [.long (lN own), .long (lN oth), .int (zLd own oth), .int (nI i), .int (nI mm), .int (nI d)]) (rest := [.int b]) ⟨hx, hb, hml, hown, hts⟩ (hM own oth i mm hO hQ (by omega) (by omega) c_22) (cwV 6 hts gX5_worthBehindThrow_X5_worthBehindMove rfl rfl rfl (by decide +kernel) ⟨(show (3 * d + 7) + 1 ≤ 3 * d + 8 by omega), (show 8 + (15 + 11) + (92 * d + 229) ≤ 92 * d + 263 by omega)⟩) (zPc_V (ci := 2) (q0 := 0) zB_X hP hK rfl rfl [0, 1, 2] rfl (zX_at hX hS zF_A)) rfl rfl hl.1 rfl (lv_room (Nat.le_of_ble_eq_true rfl)) dX5_worthBehindThrow_38 ⟨Nat.zero_le _, Nat.zero_le _⟩) hP hS (fun H locs hP hS => ?_)
          refine va_mmax hx hb (hml.trans hl.1.symm) hown (hts (.methodLink RX5 171 Lib.Math.max.name) (List.mem_of_getElem? (i := 1) rfl)) (hts (.static Lib.Math.max.name) (List.mem_of_getElem? (i := 2) rfl)) (hts (.initialized "java/lang/Math") (List.mem_of_getElem? (i := 3) rfl)) (hts (.code Lib.Math.max.name Lib.Math.max.code 2 (some .int)) (List.mem_of_getElem? (i := 4) rfl)) (by show 1 ≤ 3 * d + 8; omega) (by show 0 + 13 ≤ 92 * d + 263; omega) (Nat.zero_le _) (Nat.zero_le _) dX5_worthBehindThrow_41 ?_
          refine lv_istore (lv' := [(8, .int (if b < nI (zBM (zV k d) own oth i mm) then nI (zBM (zV k d) own oth i mm) else b)), (9, .int (nI i)), (0, .ref ax), (1, .long (lN own)), (3, .long (lN oth)), (5, .int (zLd own oth)), (6, .int (nI mm)), (7, .int (nI d))]) hx hb dX5_worthBehindThrow_44 hl (by decide) rfl (fun ls hl => ?_)
          refine lv_iinc (v := nI (i + 1)) (lv' := [(9, .int (nI (i + 1))), (8, .int (if b < nI (zBM (zV k d) own oth i mm) then nI (zBM (zV k d) own oth i mm) else b)), (0, .ref ax), (1, .long (lN own)), (3, .long (lN oth)), (5, .int (zLd own oth)), (6, .int (nI mm)), (7, .int (nI d))]) hx hb dX5_worthBehindThrow_46 hl (k := 1) rfl (nI_1 i) (by decide) rfl (fun ls hl => ?_)
          refine lv_goto (tgt := 6) hx hb dX5_worthBehindThrow_49 (by decide) ?_
          exact ih6 (i + 1) _ (by omega) (zBI_y hb9 hgl c_22) (by omega) _ _ hP hS _ (lv_sub hl [0, 1, 2, 3, 4, 5, 6, 7] rfl)
  exact lp 16 0 (-1) (by omega) (zBI_0 _ _ _ _) (by omega) _ _ hP hS _ (lv_sub hl [0, 1, 2, 3, 4, 5, 6, 7] rfl)

set_option maxHeartbeats 4000000 in
set_option maxRecDepth 100000 in
theorem c_X5_worthToThrow0 (l : Launch) (dC : Nat → ClassId) (dI : Nat → Nat → Nat) (cyI cyJ : ClassId) (tb ax a0 a1 ae aw at_ : Nat) (tI mk wn cnt rh : Int32) (wf : Nat → Int32) (k kk : Nat) (hk1 : 1 ≤ k) (hkk : kk ≤ 60) (h40 : 40 ≤ kk) (htb : zTb kk wf) (own oth : Nat) (hO : zok k own) (hQ : zok k oth) : Met l yX5_worthToThrow wsX5_worthToThrow ({ frames := 3 * 0 + 6, cells := 0, slots := 0, locals := 92 * 0 + 200 }) (zPc [.ref ax, .long (lN own), .long (lN oth), .int (zLd own oth), .int (nI 0)] (dC, dI) vwCl [(cyI, .int), (cyJ, .long)] [(ax, .inr (2, [.ref a0, .ref a1, .ref ae, .ref aw, .int (nI k), .int tI, .int mk, .int wn, .int cnt])), (ae, .inr (0, [.ref at_, .int rh])), (at_, .inl (cyI, 13500, .inl wf))] (fun U => zX tb zF U U.heap)) (va_Qi (fun (r : Int32) (_ : Unit) => r = nI (zV k 0 own oth)) (fun _ _ => True) zF) 0 0 zF := by
  refine Met.ofW (cc := cX5_worthToThrow) (maxL := 10) (ret := (some .int)) (by decide) rfl ?_
  intro p e s m args below meth c s₁ B hml hv
  obtain ⟨rfl, hP, hK, hX⟩ := hv
  have hx := B.exec
  have hb := B.bytes
  have hr := B.returns
  have hts := atoms_spec (ws := wsX5_worthToThrow) B.pre
  have hown : s.vm.findClass RX5 = some m.cls := findClass_of_methodNamed B.named
  have hlocks := B.notSynchronized
  have hl := lv_entry ([.ref ax, .long (lN own), .long (lN oth), .int (zLd own oth), .int (nI 0)]) (n := 10) (Nat.le_of_ble_eq_true rfl)
  rw [lg_entry_eq]
  generalize (lg_sl ([.ref ax, .long (lN own), .long (lN oth), .int (zLd own oth), .int (nI 0)]) ++ List.replicate (10 - (lg_sl ([.ref ax, .long (lN own), .long (lN oth), .int (zLd own oth), .int (nI 0)])).length) Slot.unset).toArray = ls at hl ⊢
  have hl : lv_has ls 10 [(0, .ref ax), (1, .long (lN own)), (3, .long (lN oth)), (5, .int (zLd own oth)), (6, .int (nI 0))] := hl
  have hS : va_S zF s.heap s.heap [] := va_S.rf
  generalize hQe : MQ below _ _ _ _ _ _ = Q
  have hk4 := hO.1
  have hl1 := hO.lt
  have hl2 := hQ.lt
  have hp1 := hO.ps
  have hp2 := hQ.ps
  refine lv_iload hx hb dX5_worthToThrow_0 (lv_at hl 4 rfl) ?_
  refine lv_if_gt (tgt := 14) hx hb dX5_worthToThrow_2 (by decide) (fun c_2 => ?_) (fun c_2 => ?_)
  · skip
    have c_2 : 0 < 0 := (nI_ltI (a := 0) (b := 0) (by omega) (by omega)).mp c_2
    exact absurd c_2 (Nat.lt_irrefl _)
  · skip
    have c_2 : ¬ 0 < 0 := fun h9 => c_2 ((nI_ltI (a := 0) (b := 0) (by omega) (by omega)).mpr h9)
    refine lv_aload_n hx hb dX5_worthToThrow_5 rfl (lv_at hl 0 rfl) ?_
    refine lv_lload_n hx hb dX5_worthToThrow_6 rfl (lv_at hl 1 rfl) ?_
    refine lv_lload_n hx hb dX5_worthToThrow_7 rfl (lv_at hl 2 rfl) ?_
    refine lv_iload hx hb dX5_worthToThrow_8 (lv_at hl 3 rfl) ?_
    refine zro_i (va_runV (As := [.long (lN own), .long (lN oth), .int (zLd own oth)]) (rest := []) ⟨hx, hb, hml, hown, hts⟩ (c_X5_worthAtOnce l dC dI cyI cyJ tb ax a0 a1 ae aw at_ tI mk wn cnt rh wf k kk hk1 hkk h40 htb own oth hO hQ) (cwV 3 hts gX5_worthToThrow_X5_worthAtOnce rfl rfl rfl (by decide +kernel) ⟨(show 2 + 1 ≤ 3 * 0 + 6 by omega), (show 8 + (7 + 11) + 44 ≤ 92 * 0 + 200 by omega)⟩) (zPc_V (ci := 2) (q0 := 0) zB_T hP hK rfl rfl [0, 1, 2] rfl (fun _ _ _ => trivial)) rfl rfl hl.1 rfl (lv_room (Nat.le_of_ble_eq_true rfl)) dX5_worthToThrow_10 ⟨Nat.zero_le _, Nat.zero_le _⟩) hP hS (fun H locs hP hS => ?_)
    subst hQe
    exact W.iret (v := nI (zLf k own oth)) hx hb hr (fun t ht hW => ⟨⟨_, (), rfl, rfl, trivial⟩, hS.F ht⟩) hS.2.2 dX5_worthToThrow_13

set_option maxHeartbeats 4000000 in
set_option maxRecDepth 100000 in
theorem c_X5_worthToThrow1 (l : Launch) (dC : Nat → ClassId) (dI : Nat → Nat → Nat) (cyI cyJ : ClassId) (tb ax a0 a1 ae aw at_ : Nat) (tI mk wn cnt rh : Int32) (wf : Nat → Int32) (k kk : Nat) (hk1 : 1 ≤ k) (hkk : kk ≤ 60) (h40 : 40 ≤ kk) (htb : zTb kk wf) (d : Nat) (hd9 : d ≤ 100) (hB : ∀ own oth mm : Nat, zok k own → zok k oth → mm ≤ 4 → Met l yX5_worthBehindThrow wsX5_worthBehindThrow ({ frames := 3 * d + 8, cells := 0, slots := 0, locals := 92 * d + 263 }) (zPc [.ref ax, .long (lN own), .long (lN oth), .int (zLd own oth), .int (nI mm), .int (nI d)] (dC, dI) vwCl [(cyI, .int), (cyJ, .long)] [(ax, .inr (2, [.ref a0, .ref a1, .ref ae, .ref aw, .int (nI k), .int tI, .int mk, .int wn, .int cnt])), (ae, .inr (0, [.ref at_, .int rh])), (at_, .inl (cyI, 13500, .inl wf))] (fun U => zX tb zF U U.heap)) (va_Qi (fun (r : Int32) (_ : Unit) => r = nI (zBT (zV k d) own oth mm)) (fun _ _ => True) zF) 0 0 zF) (own oth : Nat) (hO : zok k own) (hQ : zok k oth) : Met l yX5_worthToThrow wsX5_worthToThrow ({ frames := 3 * (d + 1) + 6, cells := 0, slots := 0, locals := 92 * (d + 1) + 200 }) (zPc [.ref ax, .long (lN own), .long (lN oth), .int (zLd own oth), .int (nI (d + 1))] (dC, dI) vwCl [(cyI, .int), (cyJ, .long)] [(ax, .inr (2, [.ref a0, .ref a1, .ref ae, .ref aw, .int (nI k), .int tI, .int mk, .int wn, .int cnt])), (ae, .inr (0, [.ref at_, .int rh])), (at_, .inl (cyI, 13500, .inl wf))] (fun U => zX tb zF U U.heap)) (va_Qi (fun (r : Int32) (_ : Unit) => r = nI (zV k (d + 1) own oth)) (fun _ _ => True) zF) 0 0 zF := by
  refine Met.ofW (cc := cX5_worthToThrow) (maxL := 10) (ret := (some .int)) (by decide) rfl ?_
  intro p e s m args below meth c s₁ B hml hv
  obtain ⟨rfl, hP, hK, hX⟩ := hv
  have hx := B.exec
  have hb := B.bytes
  have hr := B.returns
  have hts := atoms_spec (ws := wsX5_worthToThrow) B.pre
  have hown : s.vm.findClass RX5 = some m.cls := findClass_of_methodNamed B.named
  have hlocks := B.notSynchronized
  have hl := lv_entry ([.ref ax, .long (lN own), .long (lN oth), .int (zLd own oth), .int (nI (d + 1))]) (n := 10) (Nat.le_of_ble_eq_true rfl)
  rw [lg_entry_eq]
  generalize (lg_sl ([.ref ax, .long (lN own), .long (lN oth), .int (zLd own oth), .int (nI (d + 1))]) ++ List.replicate (10 - (lg_sl ([.ref ax, .long (lN own), .long (lN oth), .int (zLd own oth), .int (nI (d + 1))])).length) Slot.unset).toArray = ls at hl ⊢
  have hl : lv_has ls 10 [(0, .ref ax), (1, .long (lN own)), (3, .long (lN oth)), (5, .int (zLd own oth)), (6, .int (nI (d + 1)))] := hl
  have hS : va_S zF s.heap s.heap [] := va_S.rf
  generalize hQe : MQ below _ _ _ _ _ _ = Q
  have hk4 := hO.1
  have hl1 := hO.lt
  have hl2 := hQ.lt
  have hp1 := hO.ps
  have hp2 := hQ.ps
  refine lv_iload hx hb dX5_worthToThrow_0 (lv_at hl 4 rfl) ?_
  refine lv_if_gt (tgt := 14) hx hb dX5_worthToThrow_2 (by decide) (fun c_2 => ?_) (fun c_2 => ?_)
  · skip
    have c_2 : 0 < (d + 1) := (nI_ltI (a := 0) (b := d + 1) (by omega) (by omega)).mp c_2
    have hfl : ∀ m, m ≤ 4 → (zBT (zV k d) own oth) m ≤ 1000000000 := fun m _ => zBT_le (zV_le k d) _ _ _
    refine lv_lconst (v := 0) hx hb dX5_worthToThrow_14 (by decide) ?_
    refine lv_lstore (lv' := [(7, .long 0), (0, .ref ax), (1, .long (lN own)), (3, .long (lN oth)), (5, .int (zLd own oth)), (6, .int (nI (d + 1)))]) hx hb dX5_worthToThrow_15 hl (by decide) rfl (fun ls hl => ?_)
    refine lv_iconst (v := 0) hx hb dX5_worthToThrow_17 (by decide) ?_
    refine lv_istore (lv' := [(9, .int 0), (7, .long 0), (0, .ref ax), (1, .long (lN own)), (3, .long (lN oth)), (5, .int (zLd own oth)), (6, .int (nI (d + 1)))]) hx hb dX5_worthToThrow_18 hl (by decide) rfl (fun ls hl => ?_)
    have lp : ∀ (n9 : Nat) (i : Nat) (sv : Int64), i ≤ 5 → sv = lN (zsm (zBT (zV k d) own oth) i) → 5 - i < n9 → ∀ (H : Heap) (locs : List Loc), va_P (dC, dI) vwCl [(ax, .inr (2, [.ref a0, .ref a1, .ref ae, .ref aw, .int (nI k), .int tI, .int mk, .int wn, .int cnt])), (ae, .inr (0, [.ref at_, .int rh])), (at_, .inl (cyI, 13500, .inl wf))] H → va_S zF s.heap H locs → ∀ ls : Array Slot, lv_has ls 10 [(9, .int (nI i)), (7, .long sv), (0, .ref ax), (1, .long (lN own)), (3, .long (lN oth)), (5, .int (zLd own oth)), (6, .int (nI (d + 1)))] → W p l e (headSpec wsX5_worthToThrow ({ frames := 3 * (d + 1) + 6, cells := 0, slots := 0, locals := 92 * (d + 1) + 200 })).room s m ([.ref ax, .long (lN own), .long (lN oth), .int (zLd own oth), .int (nI (d + 1))] : List Value).toArray below meth c H locs 0 0 Q (F0 m 20 ls []) := by
      intro n9
      induction n9 with
      | zero => intro i sv hi2 hsv hm9; exact absurd hm9 (Nat.not_lt_zero _)
      | succ n9 ih20 =>
        intro i sv hi2 hsv hm9 H locs hP hS ls hl
        refine lv_iload hx hb dX5_worthToThrow_20 (lv_at hl 0 rfl) ?_
        refine lv_iconst (v := 4) hx hb dX5_worthToThrow_22 (by decide) ?_
        refine lv_icmp_gt (tgt := 59) hx hb dX5_worthToThrow_23 (by decide) (fun c_23 => ?_) (fun c_23 => ?_)
        · skip
          have c_23 : 4 < i := (nI_ltI (a := 4) (b := i) (by omega) (by omega)).mp c_23
          refine lv_lload hx hb dX5_worthToThrow_59 (lv_at hl 1 rfl) ?_
          refine lv_ldc2 (v := 16) hx hb hown (hts (.constantLong RX5 169 (16)) (List.mem_of_getElem? (i := 1) rfl)) dX5_worthToThrow_61 ?_
          refine lv_ldiv hx hb dX5_worthToThrow_64 (by decide) ?_
          refine zz_l (y := lN (zsm (zBT (zV k d) own oth) 5 / 16)) (by rw [hsv, show i = 5 by omega]; exact zdiv16 (zsm_le hfl 5 (by omega))) ?_
          refine lv_l2i (v := (lN (zsm (zBT (zV k d) own oth) 5 / 16) : Int64).toInt32) hx hb dX5_worthToThrow_65 rfl ?_
          refine zz_i (y := nI (zsm (zBT (zV k d) own oth) 5 / 16)) (lN_i _) ?_
          subst hQe
          exact W.iret (v := nI (zsm (zBT (zV k d) own oth) 5 / 16)) hx hb hr (fun t ht hW => ⟨⟨_, (), rfl, rfl, trivial⟩, hS.F ht⟩) hS.2.2 dX5_worthToThrow_66
        · skip
          have c_23 : ¬ 4 < i := fun h9 => c_23 ((nI_ltI (a := 4) (b := i) (by omega) (by omega)).mpr h9)
          refine lv_lload hx hb dX5_worthToThrow_26 (lv_at hl 1 rfl) ?_
          refine lv_iload hx hb dX5_worthToThrow_28 (lv_at hl 0 rfl) ?_
          refine zro_i (va_runS (As := [.int (nI i)]) (rest := [.long sv]) ⟨hx, hb, hml, hown, hts⟩ (c_X0_timesIn16 l tb i (by omega)) (va_cwS 1 hts gX5_worthToThrow_X0_timesIn16 rfl rfl rfl (by decide +kernel) ⟨(show 0 + 1 ≤ 3 * (d + 1) + 6 by omega), (show 8 + (1 + 11) + 0 ≤ 92 * (d + 1) + 200 by omega)⟩) (zPx zB_X (zX_at hX hS zF_A)) rfl rfl hl.1 rfl (lv_room (Nat.le_of_ble_eq_true rfl)) dX5_worthToThrow_30 ⟨Nat.zero_le _, Nat.zero_le _⟩) hP hS (fun H locs hP hS => ?_)
          refine lv_i2l (v := (nI (ztm i) : Int32).toInt64) hx hb dX5_worthToThrow_33 rfl ?_
          refine zz_l (y := lN (ztm i)) (ztm_l i) ?_
          refine lv_aload_n hx hb dX5_worthToThrow_34 rfl (lv_at hl 2 rfl) ?_
          refine lv_lload_n hx hb dX5_worthToThrow_35 rfl (lv_at hl 3 rfl) ?_
          refine lv_lload_n hx hb dX5_worthToThrow_36 rfl (lv_at hl 4 rfl) ?_
          refine lv_iload hx hb dX5_worthToThrow_37 (lv_at hl 5 rfl) ?_
          refine lv_iload hx hb dX5_worthToThrow_39 (lv_at hl 0 rfl) ?_
          refine lv_iload hx hb dX5_worthToThrow_41 (lv_at hl 6 rfl) ?_
          refine lv_iconst (v := 1) hx hb dX5_worthToThrow_43 (by decide) ?_
          refine lv_isub hx hb dX5_worthToThrow_44 ?_
          refine zz_i (y := nI d) (nI_pred d) ?_
          refine zro_i (va_runV (As := [.long (lN own), .long (lN oth), .int (zLd own oth), .int (nI i), .int (nI d)]) (rest := [.long (lN (ztm i)), .long sv]) ⟨hx, hb, hml, hown, hts⟩ (hB own oth i hO hQ (by omega)) (cwV 5 hts gX5_worthToThrow_X5_worthBehindThrow rfl rfl rfl (by decide +kernel) ⟨(show (3 * d + 8) + 1 ≤ 3 * (d + 1) + 6 by omega), (show 8 + (10 + 11) + (92 * d + 263) ≤ 92 * (d + 1) + 200 by omega)⟩) (zPc_V (ci := 2) (q0 := 0) zB_X hP hK rfl rfl [0, 1, 2] rfl (zX_at hX hS zF_A)) rfl rfl hl.1 rfl (lv_room (Nat.le_of_ble_eq_true rfl)) dX5_worthToThrow_45 ⟨Nat.zero_le _, Nat.zero_le _⟩) hP hS (fun H locs hP hS => ?_)
          refine lv_i2l (v := (nI (zBT (zV k d) own oth i) : Int32).toInt64) hx hb dX5_worthToThrow_48 rfl ?_
          refine zz_l (y := lN ((zBT (zV k d) own oth) i)) (nI_lw (hfl i (by omega))) ?_
          refine lv_lmul hx hb dX5_worthToThrow_49 ?_
          refine lv_ladd hx hb dX5_worthToThrow_50 ?_
          refine zz_l (y := lN (zsm (zBT (zV k d) own oth) (i + 1))) (by rw [hsv]; exact zsm_s (zBT (zV k d) own oth) i) ?_
          refine lv_lstore (lv' := [(7, .long (lN (zsm (zBT (zV k d) own oth) (i + 1)))), (9, .int (nI i)), (0, .ref ax), (1, .long (lN own)), (3, .long (lN oth)), (5, .int (zLd own oth)), (6, .int (nI (d + 1)))]) hx hb dX5_worthToThrow_51 hl (by decide) rfl (fun ls hl => ?_)
          refine lv_iinc (v := nI (i + 1)) (lv' := [(9, .int (nI (i + 1))), (7, .long (lN (zsm (zBT (zV k d) own oth) (i + 1)))), (0, .ref ax), (1, .long (lN own)), (3, .long (lN oth)), (5, .int (zLd own oth)), (6, .int (nI (d + 1)))]) hx hb dX5_worthToThrow_53 hl (k := 1) rfl (nI_1 i) (by decide) rfl (fun ls hl => ?_)
          refine lv_goto (tgt := 20) hx hb dX5_worthToThrow_56 (by decide) ?_
          exact ih20 (i + 1) _ (by omega) rfl (by omega) _ _ hP hS _ (lv_sub hl [0, 1, 2, 3, 4, 5, 6] rfl)
    exact lp 6 0 0 (by omega) rfl (by omega) _ _ hP hS _ (lv_sub hl [0, 1, 2, 3, 4, 5, 6] rfl)
  · skip
    have c_2 : ¬ 0 < (d + 1) := fun h9 => c_2 ((nI_ltI (a := 0) (b := d + 1) (by omega) (by omega)).mpr h9)
    exact absurd (by omega) c_2

theorem c_X5_worthToThrow (l : Launch) (dC : Nat → ClassId) (dI : Nat → Nat → Nat) (cyI cyJ : ClassId) (tb ax a0 a1 ae aw at_ : Nat) (tI mk wn cnt rh : Int32) (wf : Nat → Int32) (k kk : Nat) (hk1 : 1 ≤ k) (hkk : kk ≤ 60) (h40 : 40 ≤ kk) (htb : zTb kk wf) : ∀ d, d ≤ 100 → ∀ own oth : Nat, zok k own → zok k oth → Met l yX5_worthToThrow wsX5_worthToThrow ({ frames := 3 * d + 6, cells := 0, slots := 0, locals := 92 * d + 200 }) (zPc [.ref ax, .long (lN own), .long (lN oth), .int (zLd own oth), .int (nI d)] (dC, dI) vwCl [(cyI, .int), (cyJ, .long)] [(ax, .inr (2, [.ref a0, .ref a1, .ref ae, .ref aw, .int (nI k), .int tI, .int mk, .int wn, .int cnt])), (ae, .inr (0, [.ref at_, .int rh])), (at_, .inl (cyI, 13500, .inl wf))] (fun U => zX tb zF U U.heap)) (va_Qi (fun (r : Int32) (_ : Unit) => r = nI (zV k d own oth)) (fun _ _ => True) zF) 0 0 zF := by
  intro d
  induction d with
  | zero => intro _ own oth hO hQ; exact c_X5_worthToThrow0 l dC dI cyI cyJ tb ax a0 a1 ae aw at_ tI mk wn cnt rh wf k kk hk1 hkk h40 htb own oth hO hQ
  | succ d ih =>
    intro h9 own oth hO hQ
    have hT := ih (by omega)
    have hM : ∀ own oth fr mm : Nat, zok k own → zok k oth → fr ≤ 14 → mm ≤ 4 → zcm own oth fr mm = true → Met l yX5_worthBehindMove wsX5_worthBehindMove ({ frames := 3 * d + 7, cells := 0, slots := 0, locals := 92 * d + 229 }) (zPc [.ref ax, .long (lN own), .long (lN oth), .int (zLd own oth), .int (nI fr), .int (nI mm), .int (nI d)] (dC, dI) vwCl [(cyI, .int), (cyJ, .long)] [(ax, .inr (2, [.ref a0, .ref a1, .ref ae, .ref aw, .int (nI k), .int tI, .int mk, .int wn, .int cnt])), (ae, .inr (0, [.ref at_, .int rh])), (at_, .inl (cyI, 13500, .inl wf))] (fun U => zX tb zF U U.heap)) (va_Qi (fun (r : Int32) (_ : Unit) => r = nI (zBM (zV k d) own oth fr mm)) (fun _ _ => True) zF) 0 0 zF := fun own oth fr mm hO hQ hfr hmm hcm => c_X5_worthBehindMove0 l dC dI cyI cyJ tb ax a0 a1 ae aw at_ tI mk wn cnt rh wf k kk hk1 hkk h40 htb d hT own oth fr mm hO hQ hfr hmm hcm
    exact c_X5_worthToThrow1 l dC dI cyI cyJ tb ax a0 a1 ae aw at_ tI mk wn cnt rh wf k kk hk1 hkk h40 htb d (by omega) (fun own oth mm hO hQ hmm => c_X5_worthBehindThrow0 l dC dI cyI cyJ tb ax a0 a1 ae aw at_ tI mk wn cnt rh wf k kk hk1 hkk h40 htb d hT hM own oth mm hO hQ hmm) own oth hO hQ
theorem c_X5_worthBehindMove (l : Launch) (dC : Nat → ClassId) (dI : Nat → Nat → Nat) (cyI cyJ : ClassId) (tb ax a0 a1 ae aw at_ : Nat) (tI mk wn cnt rh : Int32) (wf : Nat → Int32) (k kk : Nat) (hk1 : 1 ≤ k) (hkk : kk ≤ 60) (h40 : 40 ≤ kk) (htb : zTb kk wf) (d : Nat) (hd9 : d ≤ 100) : ∀ own oth fr mm : Nat, zok k own → zok k oth → fr ≤ 14 → mm ≤ 4 → zcm own oth fr mm = true → Met l yX5_worthBehindMove wsX5_worthBehindMove ({ frames := 3 * d + 7, cells := 0, slots := 0, locals := 92 * d + 229 }) (zPc [.ref ax, .long (lN own), .long (lN oth), .int (zLd own oth), .int (nI fr), .int (nI mm), .int (nI d)] (dC, dI) vwCl [(cyI, .int), (cyJ, .long)] [(ax, .inr (2, [.ref a0, .ref a1, .ref ae, .ref aw, .int (nI k), .int tI, .int mk, .int wn, .int cnt])), (ae, .inr (0, [.ref at_, .int rh])), (at_, .inl (cyI, 13500, .inl wf))] (fun U => zX tb zF U U.heap)) (va_Qi (fun (r : Int32) (_ : Unit) => r = nI (zBM (zV k d) own oth fr mm)) (fun _ _ => True) zF) 0 0 zF := fun own oth fr mm hO hQ hfr hmm hcm => c_X5_worthBehindMove0 l dC dI cyI cyJ tb ax a0 a1 ae aw at_ tI mk wn cnt rh wf k kk hk1 hkk h40 htb d (c_X5_worthToThrow l dC dI cyI cyJ tb ax a0 a1 ae aw at_ tI mk wn cnt rh wf k kk hk1 hkk h40 htb d hd9) own oth fr mm hO hQ hfr hmm hcm
theorem c_X5_worthBehindThrow (l : Launch) (dC : Nat → ClassId) (dI : Nat → Nat → Nat) (cyI cyJ : ClassId) (tb ax a0 a1 ae aw at_ : Nat) (tI mk wn cnt rh : Int32) (wf : Nat → Int32) (k kk : Nat) (hk1 : 1 ≤ k) (hkk : kk ≤ 60) (h40 : 40 ≤ kk) (htb : zTb kk wf) (d : Nat) (hd9 : d ≤ 100) : ∀ own oth mm : Nat, zok k own → zok k oth → mm ≤ 4 → Met l yX5_worthBehindThrow wsX5_worthBehindThrow ({ frames := 3 * d + 8, cells := 0, slots := 0, locals := 92 * d + 263 }) (zPc [.ref ax, .long (lN own), .long (lN oth), .int (zLd own oth), .int (nI mm), .int (nI d)] (dC, dI) vwCl [(cyI, .int), (cyJ, .long)] [(ax, .inr (2, [.ref a0, .ref a1, .ref ae, .ref aw, .int (nI k), .int tI, .int mk, .int wn, .int cnt])), (ae, .inr (0, [.ref at_, .int rh])), (at_, .inl (cyI, 13500, .inl wf))] (fun U => zX tb zF U U.heap)) (va_Qi (fun (r : Int32) (_ : Unit) => r = nI (zBT (zV k d) own oth mm)) (fun _ _ => True) zF) 0 0 zF := fun own oth mm hO hQ hmm => c_X5_worthBehindThrow0 l dC dI cyI cyJ tb ax a0 a1 ae aw at_ tI mk wn cnt rh wf k kk hk1 hkk h40 htb d (c_X5_worthToThrow l dC dI cyI cyJ tb ax a0 a1 ae aw at_ tI mk wn cnt rh wf k kk hk1 hkk h40 htb d hd9) (c_X5_worthBehindMove l dC dI cyI cyJ tb ax a0 a1 ae aw at_ tI mk wn cnt rh wf k kk hk1 hkk h40 htb d hd9) own oth mm hO hQ hmm
end
section
/-! the class reads its game -/
/-- ao, aq: where the side to move and the other one lie -/
def zSd (tn a0 a1 ao aq : Nat) : Prop := (tn = 0 ∧ ao = a0 ∧ aq = a1) ∨ (tn = 1 ∧ ao = a1 ∧ aq = a0)
theorem zSd_o {tn a0 a1 ao aq : Nat} (h : zSd tn a0 a1 ao aq) : (if tn = 0 then a0 else a1) = ao := by
  rcases h with ⟨h1, h2, -⟩ | ⟨h1, h2, -⟩ <;> rw [h1, h2] <;> rfl
theorem zSd_q {tn a0 a1 ao aq : Nat} (h : zSd tn a0 a1 ao aq) : (if 1 - tn = 0 then a0 else a1) = aq := by
  rcases h with ⟨h1, -, h2⟩ | ⟨h1, -, h2⟩ <;> rw [h1, h2] <;> rfl
theorem zSd_le {tn a0 a1 ao aq : Nat} (h : zSd tn a0 a1 ao aq) : tn ≤ 1 := by
  rcases h with ⟨h1, -, -⟩ | ⟨h1, -, -⟩ <;> omega
theorem z_nd {al bl : List Nat} (h : al.Nodup) (is : List Nat) (hn : va_nd is = true) (e : is.map (fun i => al[i]?) = bl.map some) : bl.Nodup := by
  refine List.pairwise_iff_getElem.mpr (fun i j hi hj hij e2 => ?_)
  have hlen : is.length = bl.length := by have := congrArg List.length e; simpa using this
  have f : ∀ x, x < bl.length → ∃ y, is[x]? = some y ∧ al[y]? = bl[x]? := by
    intro x hx
    have h1 : (is.map (fun i => al[i]?))[x]? = (bl.map some)[x]? := by rw [e]
    rw [List.getElem?_map, List.getElem?_map, List.getElem?_eq_getElem (show x < is.length by omega), List.getElem?_eq_getElem hx] at h1
    exact ⟨is[x]'(by omega), List.getElem?_eq_getElem (by omega), by rw [List.getElem?_eq_getElem hx]; exact Option.some.inj h1⟩
  obtain ⟨y1, h1, h2⟩ := f i (by omega)
  obtain ⟨y2, h3, h4⟩ := f j hj
  have h5 : al[y1]? = al[y2]? := by rw [h2, h4, List.getElem?_eq_getElem hi, List.getElem?_eq_getElem hj, e2]
  have h6 : y1 < al.length := by
    rcases Nat.lt_or_ge y1 al.length with h7 | h7
    · exact h7
    · rw [List.getElem?_eq_none h7] at h2
      rw [List.getElem?_eq_getElem (show i < bl.length by omega)] at h2
      cases h2
  have h7 : y1 = y2 := (List.getElem?_inj h6 h).mp h5
  have h8 := va_nd_inj is hn i j y1 h1 (by rw [h7]; exact h3)
  omega
theorem zA_pl {al bl : List Nat} (is : List Nat) (e : is.map (fun i => al[i]?) = bl.map some) : ∀ q, zA bl q → zA al q := by
  intro q hq
  have h1 : some q ∈ bl.map some := List.mem_map_of_mem hq
  rw [← e] at h1
  obtain ⟨i, -, h2⟩ := List.mem_map.mp h1
  exact List.mem_of_getElem? h2
theorem zNum_s (own oth m j : Nat) : zNum own oth m (j + 1) = zNum own oth m j + (if zcm own oth j m = true then 1 else 0) := rfl
theorem zNum_le (own oth m : Nat) : ∀ j, zNum own oth m j ≤ j := by
  intro j
  induction j with
  | zero => exact Nat.le_refl _
  | succ j ih =>
    rw [zNum_s]
    split <;> omega
/-- how many of the first j rank ahead of place pl with worth w -/
def zCB (wb : Nat → Int32) (pl : Nat) (w : Int32) : Nat → Nat
  | 0 => 0
  | j + 1 => zCB wb pl w j + (if w < wb j ∨ (wb j = w ∧ j < pl) then 1 else 0)
theorem zCB_s (wb : Nat → Int32) (pl : Nat) (w : Int32) (j : Nat) : zCB wb pl w (j + 1) = zCB wb pl w j + (if w < wb j ∨ (wb j = w ∧ j < pl) then 1 else 0) := rfl
theorem zmk_ne {mk : Int32} {mm : Nat} (h : zmk mk mm) (c : ¬ mk = -1) : mk = nI mm := by
  rcases h with h | h
  · exact h
  · exact absurd h.1 c
/-- the worth of the position for the side whose turn it is -/
def zWT (k tn : Nat) (wn mk : Int32) (mm d own oth : Nat) : Int32 :=
  if wn = -1 then (if mk = -1 then nI (zV k d own oth) else nI (zBT (zV k d) own oth mm)) else (if wn = nI tn then 1000000000 else 0)
/-- the worth behind the move from j, or none -/
def zWB (k d own oth mm j : Nat) : Int32 := if zcm own oth j mm = true then nI (zBM (zV k d) own oth j mm) else -1
theorem zWB_n {k d own oth mm i : Nat} {g : Nat → Int32} (hg : ∀ j, j < i → g j = zWB k d own oth mm j) (c : zcm own oth i mm = false) : ∀ j, j < i + 1 → upd g i (-1) j = zWB k d own oth mm j := by
  intro j hj
  rcases Nat.lt_or_ge j i with h | h
  · rw [pk_un (by omega)]; exact hg j h
  · rw [show j = i by omega, pk_us, zWB, if_neg (by rw [c]; decide)]
theorem zWB_y {k d own oth mm i : Nat} {g : Nat → Int32} (hg : ∀ j, j < i → g j = zWB k d own oth mm j) (c : zcm own oth i mm = true) : ∀ j, j < i + 1 → upd g i (nI (zBM (zV k d) own oth i mm)) j = zWB k d own oth mm j := by
  intro j hj
  rcases Nat.lt_or_ge j i with h | h
  · rw [pk_un (by omega)]; exact hg j h
  · rw [show j = i by omega, pk_us, zWB, if_pos c]
set_option maxHeartbeats 4000000 in
set_option maxRecDepth 100000 in
theorem c_X5_sideOf (l : Launch) (dC : Nat → ClassId) (dI : Nat → Nat → Nat) (cyI cyJ : ClassId) (ax a0 a1 ae aw : Nat) (pI tI mk wn cnt : Int32) (x9 : Nat) (hx9 : x9 ≤ 1) : Met l yX5_sideOf wsX5_sideOf ({ frames := 0, cells := 0, slots := 0, locals := 0 }) (zPc [.ref ax, .int (nI x9)] (dC, dI) vwCl [(cyI, .int), (cyJ, .long)] [(ax, .inr (2, [.ref a0, .ref a1, .ref ae, .ref aw, .int pI, .int tI, .int mk, .int wn, .int cnt]))] (fun _ => True)) (va_Qr (fun (_ : Unit) => True) (fun _ (r : Nat) _ => r = (if x9 = 0 then a0 else a1)) zF) 0 0 zF := by
  refine Met.ofW (cc := cX5_sideOf) (maxL := 2) (ret := (some (.object "RoyalUrTable$Side"))) (by decide) rfl ?_
  intro p e s m args below meth c s₁ B hml hv
  obtain ⟨rfl, hP, hK, hX⟩ := hv
  have hx := B.exec
  have hb := B.bytes
  have hr := B.returns
  have hts := atoms_spec (ws := wsX5_sideOf) B.pre
  have hown : s.vm.findClass RX5 = some m.cls := findClass_of_methodNamed B.named
  have hlocks := B.notSynchronized
  have hinX5 : ∀ w ∈ wsX50, w ∈ wsX5_sideOf := by decide +kernel
  have hl := lv_entry ([.ref ax, .int (nI x9)]) (n := 2) (Nat.le_of_ble_eq_true rfl)
  rw [lg_entry_eq]
  generalize (lg_sl ([.ref ax, .int (nI x9)]) ++ List.replicate (2 - (lg_sl ([.ref ax, .int (nI x9)])).length) Slot.unset).toArray = ls at hl ⊢
  have hl : lv_has ls 2 [(0, .ref ax), (1, .int (nI x9))] := hl
  have hS : va_S zF s.heap s.heap [] := va_S.rf
  refine lv_iload_n hx hb dX5_sideOf_0 rfl (lv_at hl 1 rfl) ?_
  refine lv_if_ne (tgt := 11) hx hb dX5_sideOf_1 (by decide) (fun c_1 => ?_) (fun c_1 => ?_)
  · skip
    have c_1 : ¬ x9 = 0 := fun h9 => c_1 ((nI_eq (a := x9) (b := 0) (by omega) (by omega)).mpr h9)
    refine lv_aload_n hx hb dX5_sideOf_11 rfl (lv_at hl 0 rfl) ?_
    refine va_get (D := (dC, dI)) (ci := 2) (v := .ref a1) (C := RX5) (T := TX5) (N := 9) hx hb hts hinX5 hown hK hP 0 rfl rfl 1 (by decide) (hts (.fieldLink RX5 16 "RoyalUrTable" "side1" "LRoyalUrTable$Side;") (List.mem_of_getElem? (i := 2) rfl)) (fun _ h9 => h9) rfl dX5_sideOf_12 ?_
    exact W.aret (v := .ref a1) hx hb hr (Or.inl ⟨_, rfl⟩) (Or.inr ⟨_, rfl⟩) (fun t ht hW => ⟨⟨(), _, rfl, trivial, (if_neg c_1).symm⟩, hS.F ht⟩) hS.2.2 dX5_sideOf_15
  · skip
    have c_1 : x9 = 0 := (nI_eq (a := x9) (b := 0) (by omega) (by omega)).mp c_1
    refine lv_aload_n hx hb dX5_sideOf_4 rfl (lv_at hl 0 rfl) ?_
    refine va_get (D := (dC, dI)) (ci := 2) (v := .ref a0) (C := RX5) (T := TX5) (N := 9) hx hb hts hinX5 hown hK hP 0 rfl rfl 0 (by decide) (hts (.fieldLink RX5 10 "RoyalUrTable" "side0" "LRoyalUrTable$Side;") (List.mem_of_getElem? (i := 1) rfl)) (fun _ h9 => h9) rfl dX5_sideOf_5 ?_
    refine lv_goto (tgt := 15) hx hb dX5_sideOf_8 (by decide) ?_
    exact W.aret (v := .ref a0) hx hb hr (Or.inl ⟨_, rfl⟩) (Or.inr ⟨_, rfl⟩) (fun t ht hW => ⟨⟨(), _, rfl, trivial, (if_pos c_1).symm⟩, hS.F ht⟩) hS.2.2 dX5_sideOf_15

set_option maxHeartbeats 4000000 in
set_option maxRecDepth 100000 in
theorem c_X5_canMoveFrom (l : Launch) (dC : Nat → ClassId) (dI : Nat → Nat → Nat) (cyI cyJ : ClassId) (ax a0 a1 ae aw ao aq : Nat) (mk wn cnt lo lq : Int32) (k tn own oth : Nat) (hsd : zSd tn a0 a1 ao aq) (hO : zok k own) (hQ : zok k oth) (mm pl : Nat) (hmk : zmk mk mm) (hmm : mm ≤ 4) (hpl : pl ≤ 14) : Met l yX5_canMoveFrom wsX5_canMoveFrom ({ frames := 2, cells := 0, slots := 0, locals := 48 }) (zPc [.ref ax, .int (nI pl)] (dC, dI) vwCl [(cyI, .int), (cyJ, .long)] [(ax, .inr (2, [.ref a0, .ref a1, .ref ae, .ref aw, .int (nI k), .int (nI tn), .int mk, .int wn, .int cnt])), (ao, .inr (1, [.long (lN own), .int lo])), (aq, .inr (1, [.long (lN oth), .int lq]))] (fun _ => True)) (va_Qi (fun (r : Int32) (_ : Unit) => r = bI (zcm own oth pl mm)) (fun _ _ => True) zF) 0 0 zF := by
  refine Met.ofW (cc := cX5_canMoveFrom) (maxL := 2) (ret := (some .boolean)) (by decide) rfl ?_
  intro p e s m args below meth c s₁ B hml hv
  obtain ⟨rfl, hP, hK, hX⟩ := hv
  have hx := B.exec
  have hb := B.bytes
  have hr := B.returns
  have hts := atoms_spec (ws := wsX5_canMoveFrom) B.pre
  have hown : s.vm.findClass RX5 = some m.cls := findClass_of_methodNamed B.named
  have hlocks := B.notSynchronized
  have hinX3 : ∀ w ∈ wsX30, w ∈ wsX5_canMoveFrom := by decide +kernel
  have hinX5 : ∀ w ∈ wsX50, w ∈ wsX5_canMoveFrom := by decide +kernel
  have hl := lv_entry ([.ref ax, .int (nI pl)]) (n := 2) (Nat.le_of_ble_eq_true rfl)
  rw [lg_entry_eq]
  generalize (lg_sl ([.ref ax, .int (nI pl)]) ++ List.replicate (2 - (lg_sl ([.ref ax, .int (nI pl)])).length) Slot.unset).toArray = ls at hl ⊢
  have hl : lv_has ls 2 [(0, .ref ax), (1, .int (nI pl))] := hl
  have hS : va_S zF s.heap s.heap [] := va_S.rf
  have htn := zSd_le hsd
  refine lv_aload_n hx hb dX5_canMoveFrom_0 rfl (lv_at hl 0 rfl) ?_
  refine lv_aload_n hx hb dX5_canMoveFrom_1 rfl (lv_at hl 0 rfl) ?_
  refine va_get (D := (dC, dI)) (ci := 2) (v := .int (nI tn)) (C := RX5) (T := TX5) (N := 9) hx hb hts hinX5 hown hK hP 0 rfl rfl 5 (by decide) (hts (.fieldLink RX5 59 "RoyalUrTable" "turn" "I") (List.mem_of_getElem? (i := 1) rfl)) (fun _ h9 => h9) rfl dX5_canMoveFrom_2 ?_
  refine zro_r (va_runV (As := [.int (nI tn)]) (rest := []) ⟨hx, hb, hml, hown, hts⟩ (c_X5_sideOf l dC dI cyI cyJ ax a0 a1 ae aw (nI k) (nI tn) mk wn cnt tn (by omega)) (cwV 1 hts gX5_canMoveFrom_X5_sideOf rfl rfl rfl (by decide +kernel) ⟨Nat.le_of_ble_eq_true rfl, Nat.le_of_ble_eq_true rfl⟩) (zPc_V (ci := 2) (q0 := 0) zB_T hP hK rfl rfl [0] rfl (fun _ _ _ => trivial)) rfl rfl hl.1 rfl (lv_room (Nat.le_of_ble_eq_true rfl)) dX5_canMoveFrom_5 ⟨Nat.zero_le _, Nat.zero_le _⟩) hP hS (fun H locs hP hS => ?_)
  refine zz_r (y := ao) (zSd_o hsd) ?_
  refine va_get (D := (dC, dI)) (ci := 1) (v := .long (lN own)) (C := RX3) (T := TX3) (N := 2) hx hb hts hinX3 hown hK hP 1 rfl rfl 0 (by decide) (hts (.fieldLink RX5 70 "RoyalUrTable$Side" "layout" "J") (List.mem_of_getElem? (i := 2) rfl)) (fun _ h9 => h9) rfl dX5_canMoveFrom_8 ?_
  refine lv_aload_n hx hb dX5_canMoveFrom_11 rfl (lv_at hl 0 rfl) ?_
  refine lv_iconst (v := 1) hx hb dX5_canMoveFrom_12 (by decide) ?_
  refine lv_aload_n hx hb dX5_canMoveFrom_13 rfl (lv_at hl 0 rfl) ?_
  refine va_get (D := (dC, dI)) (ci := 2) (v := .int (nI tn)) (C := RX5) (T := TX5) (N := 9) hx hb hts hinX5 hown hK hP 0 rfl rfl 5 (by decide) (hts (.fieldLink RX5 59 "RoyalUrTable" "turn" "I") (List.mem_of_getElem? (i := 1) rfl)) (fun _ h9 => h9) rfl dX5_canMoveFrom_14 ?_
  refine lv_isub hx hb dX5_canMoveFrom_17 ?_
  refine zz_i (y := nI (1 - tn)) (pk_sub (a := 1) (b := tn) (by omega)) ?_
  refine zro_r (va_runV (As := [.int (nI (1 - tn))]) (rest := [.long (lN own)]) ⟨hx, hb, hml, hown, hts⟩ (c_X5_sideOf l dC dI cyI cyJ ax a0 a1 ae aw (nI k) (nI tn) mk wn cnt (1 - tn) (by omega)) (cwV 1 hts gX5_canMoveFrom_X5_sideOf rfl rfl rfl (by decide +kernel) ⟨Nat.le_of_ble_eq_true rfl, Nat.le_of_ble_eq_true rfl⟩) (zPc_V (ci := 2) (q0 := 0) zB_T hP hK rfl rfl [0] rfl (fun _ _ _ => trivial)) rfl rfl hl.1 rfl (lv_room (Nat.le_of_ble_eq_true rfl)) dX5_canMoveFrom_18 ⟨Nat.zero_le _, Nat.zero_le _⟩) hP hS (fun H locs hP hS => ?_)
  refine zz_r (y := aq) (zSd_q hsd) ?_
  refine va_get (D := (dC, dI)) (ci := 1) (v := .long (lN oth)) (C := RX3) (T := TX3) (N := 2) hx hb hts hinX3 hown hK hP 2 rfl rfl 0 (by decide) (hts (.fieldLink RX5 70 "RoyalUrTable$Side" "layout" "J") (List.mem_of_getElem? (i := 2) rfl)) (fun _ h9 => h9) rfl dX5_canMoveFrom_21 ?_
  refine lv_iload_n hx hb dX5_canMoveFrom_24 rfl (lv_at hl 1 rfl) ?_
  refine lv_aload_n hx hb dX5_canMoveFrom_25 rfl (lv_at hl 0 rfl) ?_
  refine va_get (D := (dC, dI)) (ci := 2) (v := .int mk) (C := RX5) (T := TX5) (N := 9) hx hb hts hinX5 hown hK hP 0 rfl rfl 6 (by decide) (hts (.fieldLink RX5 46 "RoyalUrTable" "marksTold" "I") (List.mem_of_getElem? (i := 3) rfl)) (fun _ h9 => h9) rfl dX5_canMoveFrom_26 ?_
  refine zro_i (va_runS (As := [.long (lN own), .long (lN oth), .int (nI pl), .int mk]) (rest := []) ⟨hx, hb, hml, hown, hts⟩ (c_X2_canMove l own oth pl mm mk hO.lt hQ.lt (by omega) hmm hmk) (va_cwS 4 hts gX5_canMoveFrom_X2_canMove rfl rfl rfl (by decide +kernel) ⟨Nat.le_of_ble_eq_true rfl, Nat.le_of_ble_eq_true rfl⟩) zPu rfl rfl hl.1 rfl (lv_room (Nat.le_of_ble_eq_true rfl)) dX5_canMoveFrom_29 ⟨Nat.zero_le _, Nat.zero_le _⟩) hP hS (fun H locs hP hS => ?_)
  exact W.zret (v := bI (zcm own oth pl mm)) hx hb hr (bI_nar _) (fun t ht hW => ⟨⟨_, (), rfl, rfl, trivial⟩, hS.F ht⟩) hS.2.2 dX5_canMoveFrom_32

set_option maxHeartbeats 4000000 in
set_option maxRecDepth 100000 in
theorem c_X5_countMoves (l : Launch) (dC : Nat → ClassId) (dI : Nat → Nat → Nat) (cyI cyJ : ClassId) (ax a0 a1 ae aw ao aq : Nat) (mk wn cnt lo lq : Int32) (k tn own oth : Nat) (hsd : zSd tn a0 a1 ao aq) (hO : zok k own) (hQ : zok k oth) (mm : Nat) (mj : Int32) (hmk : zmk mj mm) (hmm : mm ≤ 4) : Met l yX5_countMoves wsX5_countMoves ({ frames := 2, cells := 0, slots := 0, locals := 48 }) (zPc [.ref ax, .int mj] (dC, dI) vwCl [(cyI, .int), (cyJ, .long)] [(ax, .inr (2, [.ref a0, .ref a1, .ref ae, .ref aw, .int (nI k), .int (nI tn), .int mk, .int wn, .int cnt])), (ao, .inr (1, [.long (lN own), .int lo])), (aq, .inr (1, [.long (lN oth), .int lq]))] (fun _ => True)) (va_Qi (fun (r : Int32) (_ : Unit) => r = nI (zNum own oth mm 15)) (fun _ _ => True) zF) 0 0 zF := by
  refine Met.ofW (cc := cX5_countMoves) (maxL := 8) (ret := (some .int)) (by decide) rfl ?_
  intro p e s m args below meth c s₁ B hml hv
  obtain ⟨rfl, hP, hK, hX⟩ := hv
  have hx := B.exec
  have hb := B.bytes
  have hr := B.returns
  have hts := atoms_spec (ws := wsX5_countMoves) B.pre
  have hown : s.vm.findClass RX5 = some m.cls := findClass_of_methodNamed B.named
  have hlocks := B.notSynchronized
  have hinX3 : ∀ w ∈ wsX30, w ∈ wsX5_countMoves := by decide +kernel
  have hinX5 : ∀ w ∈ wsX50, w ∈ wsX5_countMoves := by decide +kernel
  have hl := lv_entry ([.ref ax, .int mj]) (n := 8) (Nat.le_of_ble_eq_true rfl)
  rw [lg_entry_eq]
  generalize (lg_sl ([.ref ax, .int mj]) ++ List.replicate (8 - (lg_sl ([.ref ax, .int mj])).length) Slot.unset).toArray = ls at hl ⊢
  have hl : lv_has ls 8 [(0, .ref ax), (1, .int mj)] := hl
  have hS : va_S zF s.heap s.heap [] := va_S.rf
  generalize hQe : MQ below _ _ _ _ _ _ = Q
  have htn := zSd_le hsd
  refine lv_aload_n hx hb dX5_countMoves_0 rfl (lv_at hl 0 rfl) ?_
  refine lv_aload_n hx hb dX5_countMoves_1 rfl (lv_at hl 0 rfl) ?_
  refine va_get (D := (dC, dI)) (ci := 2) (v := .int (nI tn)) (C := RX5) (T := TX5) (N := 9) hx hb hts hinX5 hown hK hP 0 rfl rfl 5 (by decide) (hts (.fieldLink RX5 59 "RoyalUrTable" "turn" "I") (List.mem_of_getElem? (i := 1) rfl)) (fun _ h9 => h9) rfl dX5_countMoves_2 ?_
  refine zro_r (va_runV (As := [.int (nI tn)]) (rest := []) ⟨hx, hb, hml, hown, hts⟩ (c_X5_sideOf l dC dI cyI cyJ ax a0 a1 ae aw (nI k) (nI tn) mk wn cnt tn (by omega)) (cwV 1 hts gX5_countMoves_X5_sideOf rfl rfl rfl (by decide +kernel) ⟨Nat.le_of_ble_eq_true rfl, Nat.le_of_ble_eq_true rfl⟩) (zPc_V (ci := 2) (q0 := 0) zB_T hP hK rfl rfl [0] rfl (fun _ _ _ => trivial)) rfl rfl hl.1 rfl (lv_room (Nat.le_of_ble_eq_true rfl)) dX5_countMoves_5 ⟨Nat.zero_le _, Nat.zero_le _⟩) hP hS (fun H locs hP hS => ?_)
  refine zz_r (y := ao) (zSd_o hsd) ?_
  refine va_get (D := (dC, dI)) (ci := 1) (v := .long (lN own)) (C := RX3) (T := TX3) (N := 2) hx hb hts hinX3 hown hK hP 1 rfl rfl 0 (by decide) (hts (.fieldLink RX5 70 "RoyalUrTable$Side" "layout" "J") (List.mem_of_getElem? (i := 2) rfl)) (fun _ h9 => h9) rfl dX5_countMoves_8 ?_
  refine lv_lstore_n (lv' := [(2, .long (lN own)), (0, .ref ax), (1, .int mj)]) hx hb dX5_countMoves_11 rfl hl (by decide) rfl (fun ls hl => ?_)
  refine lv_aload_n hx hb dX5_countMoves_12 rfl (lv_at hl 1 rfl) ?_
  refine lv_iconst (v := 1) hx hb dX5_countMoves_13 (by decide) ?_
  refine lv_aload_n hx hb dX5_countMoves_14 rfl (lv_at hl 1 rfl) ?_
  refine va_get (D := (dC, dI)) (ci := 2) (v := .int (nI tn)) (C := RX5) (T := TX5) (N := 9) hx hb hts hinX5 hown hK hP 0 rfl rfl 5 (by decide) (hts (.fieldLink RX5 59 "RoyalUrTable" "turn" "I") (List.mem_of_getElem? (i := 1) rfl)) (fun _ h9 => h9) rfl dX5_countMoves_15 ?_
  refine lv_isub hx hb dX5_countMoves_18 ?_
  refine zz_i (y := nI (1 - tn)) (pk_sub (a := 1) (b := tn) (by omega)) ?_
  refine zro_r (va_runV (As := [.int (nI (1 - tn))]) (rest := []) ⟨hx, hb, hml, hown, hts⟩ (c_X5_sideOf l dC dI cyI cyJ ax a0 a1 ae aw (nI k) (nI tn) mk wn cnt (1 - tn) (by omega)) (cwV 1 hts gX5_countMoves_X5_sideOf rfl rfl rfl (by decide +kernel) ⟨Nat.le_of_ble_eq_true rfl, Nat.le_of_ble_eq_true rfl⟩) (zPc_V (ci := 2) (q0 := 0) zB_T hP hK rfl rfl [0] rfl (fun _ _ _ => trivial)) rfl rfl hl.1 rfl (lv_room (Nat.le_of_ble_eq_true rfl)) dX5_countMoves_19 ⟨Nat.zero_le _, Nat.zero_le _⟩) hP hS (fun H locs hP hS => ?_)
  refine zz_r (y := aq) (zSd_q hsd) ?_
  refine va_get (D := (dC, dI)) (ci := 1) (v := .long (lN oth)) (C := RX3) (T := TX3) (N := 2) hx hb hts hinX3 hown hK hP 2 rfl rfl 0 (by decide) (hts (.fieldLink RX5 70 "RoyalUrTable$Side" "layout" "J") (List.mem_of_getElem? (i := 2) rfl)) (fun _ h9 => h9) rfl dX5_countMoves_22 ?_
  refine lv_lstore (lv' := [(4, .long (lN oth)), (2, .long (lN own)), (0, .ref ax), (1, .int mj)]) hx hb dX5_countMoves_25 hl (by decide) rfl (fun ls hl => ?_)
  refine lv_iconst (v := 0) hx hb dX5_countMoves_27 (by decide) ?_
  refine lv_istore (lv' := [(6, .int 0), (4, .long (lN oth)), (2, .long (lN own)), (0, .ref ax), (1, .int mj)]) hx hb dX5_countMoves_28 hl (by decide) rfl (fun ls hl => ?_)
  refine lv_iconst (v := 0) hx hb dX5_countMoves_30 (by decide) ?_
  refine lv_istore (lv' := [(7, .int 0), (6, .int 0), (4, .long (lN oth)), (2, .long (lN own)), (0, .ref ax), (1, .int mj)]) hx hb dX5_countMoves_31 hl (by decide) rfl (fun ls hl => ?_)
  have lp : ∀ (n9 : Nat) (i : Nat) (cv : Nat), i ≤ 15 → cv = zNum own oth mm i → 15 - i < n9 → ∀ (H : Heap) (locs : List Loc), va_P (dC, dI) vwCl [(ax, .inr (2, [.ref a0, .ref a1, .ref ae, .ref aw, .int (nI k), .int (nI tn), .int mk, .int wn, .int cnt])), (ao, .inr (1, [.long (lN own), .int lo])), (aq, .inr (1, [.long (lN oth), .int lq]))] H → va_S zF s.heap H locs → ∀ ls : Array Slot, lv_has ls 8 [(7, .int (nI i)), (6, .int (nI cv)), (4, .long (lN oth)), (2, .long (lN own)), (0, .ref ax), (1, .int mj)] → W p l e (headSpec wsX5_countMoves ({ frames := 2, cells := 0, slots := 0, locals := 48 })).room s m ([.ref ax, .int mj] : List Value).toArray below meth c H locs 0 0 Q (F0 m 33 ls []) := by
    intro n9
    induction n9 with
    | zero => intro i cv hi2 hcv hm9; exact absurd hm9 (Nat.not_lt_zero _)
    | succ n9 ih33 =>
      intro i cv hi2 hcv hm9 H locs hP hS ls hl
      refine lv_iload hx hb dX5_countMoves_33 (lv_at hl 0 rfl) ?_
      refine lv_bipush (v := 14) hx hb dX5_countMoves_35 (by decide) ?_
      refine lv_icmp_gt (tgt := 61) hx hb dX5_countMoves_37 (by decide) (fun c_37 => ?_) (fun c_37 => ?_)
      · skip
        have c_37 : 14 < i := (nI_ltI (a := 14) (b := i) (by omega) (by omega)).mp c_37
        refine lv_iload hx hb dX5_countMoves_61 (lv_at hl 1 rfl) ?_
        subst hQe
        exact W.iret (v := nI cv) hx hb hr (fun t ht hW => ⟨⟨_, (), rfl, (by rw [hcv, show i = 15 by omega]), trivial⟩, hS.F ht⟩) hS.2.2 dX5_countMoves_63
      · skip
        have c_37 : ¬ 14 < i := fun h9 => c_37 ((nI_ltI (a := 14) (b := i) (by omega) (by omega)).mpr h9)
        refine lv_lload_n hx hb dX5_countMoves_40 rfl (lv_at hl 3 rfl) ?_
        refine lv_lload hx hb dX5_countMoves_41 (lv_at hl 2 rfl) ?_
        refine lv_iload hx hb dX5_countMoves_43 (lv_at hl 0 rfl) ?_
        refine lv_iload_n hx hb dX5_countMoves_45 rfl (lv_at hl 5 rfl) ?_
        refine zro_i (va_runS (As := [.long (lN own), .long (lN oth), .int (nI i), .int mj]) (rest := []) ⟨hx, hb, hml, hown, hts⟩ (c_X2_canMove l own oth i mm mj hO.lt hQ.lt (by omega) hmm hmk) (va_cwS 4 hts gX5_countMoves_X2_canMove rfl rfl rfl (by decide +kernel) ⟨Nat.le_of_ble_eq_true rfl, Nat.le_of_ble_eq_true rfl⟩) zPu rfl rfl hl.1 rfl (lv_room (Nat.le_of_ble_eq_true rfl)) dX5_countMoves_46 ⟨Nat.zero_le _, Nat.zero_le _⟩) hP hS (fun H locs hP hS => ?_)
        refine lv_if_eq (tgt := 55) hx hb dX5_countMoves_49 (by decide) (fun c_49 => ?_) (fun c_49 => ?_)
        · skip
          have c_49 := bI_0.mp c_49
          refine lv_iinc (v := nI (i + 1)) (lv' := [(7, .int (nI (i + 1))), (6, .int (nI cv)), (4, .long (lN oth)), (2, .long (lN own)), (0, .ref ax), (1, .int mj)]) hx hb dX5_countMoves_55 hl (k := 0) rfl (nI_1 i) (by decide) rfl (fun ls hl => ?_)
          refine lv_goto (tgt := 33) hx hb dX5_countMoves_58 (by decide) ?_
          exact ih33 (i + 1) _ (by omega) (by rw [zNum_s, if_neg (by rw [c_49]; decide), Nat.add_zero]; exact hcv) (by omega) _ _ hP hS _ (lv_sub hl [0, 1, 2, 3, 4, 5] rfl)
        · skip
          have c_49 := bI_1.mp c_49
          refine lv_iinc (v := nI (cv + 1)) (lv' := [(6, .int (nI (cv + 1))), (7, .int (nI i)), (4, .long (lN oth)), (2, .long (lN own)), (0, .ref ax), (1, .int mj)]) hx hb dX5_countMoves_52 hl (k := 1) rfl (nI_1 cv) (by decide) rfl (fun ls hl => ?_)
          refine lv_iinc (v := nI (i + 1)) (lv' := [(7, .int (nI (i + 1))), (6, .int (nI (cv + 1))), (4, .long (lN oth)), (2, .long (lN own)), (0, .ref ax), (1, .int mj)]) hx hb dX5_countMoves_55 hl (k := 1) rfl (nI_1 i) (by decide) rfl (fun ls hl => ?_)
          refine lv_goto (tgt := 33) hx hb dX5_countMoves_58 (by decide) ?_
          exact ih33 (i + 1) _ (by omega) (by rw [zNum_s, if_pos c_49, hcv]) (by omega) _ _ hP hS _ (lv_sub hl [0, 1, 2, 3, 4, 5] rfl)
  exact lp 16 0 0 (by omega) rfl (by omega) _ _ hP hS _ (lv_sub hl [0, 1, 2, 3, 4, 5] rfl)

set_option maxHeartbeats 4000000 in
set_option maxRecDepth 100000 in
theorem c_X5_leadOfTurn (l : Launch) (dC : Nat → ClassId) (dI : Nat → Nat → Nat) (cyI cyJ : ClassId) (ax a0 a1 ae aw ao aq : Nat) (mk wn cnt lo lq : Int32) (k tn own oth : Nat) (hsd : zSd tn a0 a1 ao aq) (hO : zok k own) (hQ : zok k oth) : Met l yX5_leadOfTurn wsX5_leadOfTurn ({ frames := 2, cells := 0, slots := 0, locals := 45 }) (zPc [.ref ax] (dC, dI) vwCl [(cyI, .int), (cyJ, .long)] [(ax, .inr (2, [.ref a0, .ref a1, .ref ae, .ref aw, .int (nI k), .int (nI tn), .int mk, .int wn, .int cnt])), (ao, .inr (1, [.long (lN own), .int lo])), (aq, .inr (1, [.long (lN oth), .int lq]))] (fun _ => True)) (va_Qi (fun (r : Int32) (_ : Unit) => r = zLd own oth) (fun _ _ => True) zF) 0 0 zF := by
  refine Met.ofW (cc := cX5_leadOfTurn) (maxL := 1) (ret := (some .int)) (by decide) rfl ?_
  intro p e s m args below meth c s₁ B hml hv
  obtain ⟨rfl, hP, hK, hX⟩ := hv
  have hx := B.exec
  have hb := B.bytes
  have hr := B.returns
  have hts := atoms_spec (ws := wsX5_leadOfTurn) B.pre
  have hown : s.vm.findClass RX5 = some m.cls := findClass_of_methodNamed B.named
  have hlocks := B.notSynchronized
  have hinX3 : ∀ w ∈ wsX30, w ∈ wsX5_leadOfTurn := by decide +kernel
  have hinX5 : ∀ w ∈ wsX50, w ∈ wsX5_leadOfTurn := by decide +kernel
  have hl := lv_entry ([.ref ax]) (n := 1) (Nat.le_of_ble_eq_true rfl)
  rw [lg_entry_eq]
  generalize (lg_sl ([.ref ax]) ++ List.replicate (1 - (lg_sl ([.ref ax])).length) Slot.unset).toArray = ls at hl ⊢
  have hl : lv_has ls 1 [(0, .ref ax)] := hl
  have hS : va_S zF s.heap s.heap [] := va_S.rf
  have htn := zSd_le hsd
  have hl1 := hO.lt
  have hl2 := hQ.lt
  refine lv_aload_n hx hb dX5_leadOfTurn_0 rfl (lv_at hl 0 rfl) ?_
  refine lv_aload_n hx hb dX5_leadOfTurn_1 rfl (lv_at hl 0 rfl) ?_
  refine va_get (D := (dC, dI)) (ci := 2) (v := .int (nI tn)) (C := RX5) (T := TX5) (N := 9) hx hb hts hinX5 hown hK hP 0 rfl rfl 5 (by decide) (hts (.fieldLink RX5 59 "RoyalUrTable" "turn" "I") (List.mem_of_getElem? (i := 1) rfl)) (fun _ h9 => h9) rfl dX5_leadOfTurn_2 ?_
  refine zro_r (va_runV (As := [.int (nI tn)]) (rest := []) ⟨hx, hb, hml, hown, hts⟩ (c_X5_sideOf l dC dI cyI cyJ ax a0 a1 ae aw (nI k) (nI tn) mk wn cnt tn (by omega)) (cwV 1 hts gX5_leadOfTurn_X5_sideOf rfl rfl rfl (by decide +kernel) ⟨Nat.le_of_ble_eq_true rfl, Nat.le_of_ble_eq_true rfl⟩) (zPc_V (ci := 2) (q0 := 0) zB_T hP hK rfl rfl [0] rfl (fun _ _ _ => trivial)) rfl rfl hl.1 rfl (lv_room (Nat.le_of_ble_eq_true rfl)) dX5_leadOfTurn_5 ⟨Nat.zero_le _, Nat.zero_le _⟩) hP hS (fun H locs hP hS => ?_)
  refine zz_r (y := ao) (zSd_o hsd) ?_
  refine va_get (D := (dC, dI)) (ci := 1) (v := .long (lN own)) (C := RX3) (T := TX3) (N := 2) hx hb hts hinX3 hown hK hP 1 rfl rfl 0 (by decide) (hts (.fieldLink RX5 70 "RoyalUrTable$Side" "layout" "J") (List.mem_of_getElem? (i := 2) rfl)) (fun _ h9 => h9) rfl dX5_leadOfTurn_8 ?_
  refine zro_i (va_runS (As := [.long (lN own)]) (rest := []) ⟨hx, hb, hml, hown, hts⟩ (c_X2_sumOfPlaces l own (by omega)) (va_cwS 1 hts gX5_leadOfTurn_X2_sumOfPlaces rfl rfl rfl (by decide +kernel) ⟨Nat.le_of_ble_eq_true rfl, Nat.le_of_ble_eq_true rfl⟩) zPu rfl rfl hl.1 rfl (lv_room (Nat.le_of_ble_eq_true rfl)) dX5_leadOfTurn_11 ⟨Nat.zero_le _, Nat.zero_le _⟩) hP hS (fun H locs hP hS => ?_)
  refine lv_aload_n hx hb dX5_leadOfTurn_14 rfl (lv_at hl 0 rfl) ?_
  refine lv_iconst (v := 1) hx hb dX5_leadOfTurn_15 (by decide) ?_
  refine lv_aload_n hx hb dX5_leadOfTurn_16 rfl (lv_at hl 0 rfl) ?_
  refine va_get (D := (dC, dI)) (ci := 2) (v := .int (nI tn)) (C := RX5) (T := TX5) (N := 9) hx hb hts hinX5 hown hK hP 0 rfl rfl 5 (by decide) (hts (.fieldLink RX5 59 "RoyalUrTable" "turn" "I") (List.mem_of_getElem? (i := 1) rfl)) (fun _ h9 => h9) rfl dX5_leadOfTurn_17 ?_
  refine lv_isub hx hb dX5_leadOfTurn_20 ?_
  refine zz_i (y := nI (1 - tn)) (pk_sub (a := 1) (b := tn) (by omega)) ?_
  refine zro_r (va_runV (As := [.int (nI (1 - tn))]) (rest := [.int (nI (psum own 16))]) ⟨hx, hb, hml, hown, hts⟩ (c_X5_sideOf l dC dI cyI cyJ ax a0 a1 ae aw (nI k) (nI tn) mk wn cnt (1 - tn) (by omega)) (cwV 1 hts gX5_leadOfTurn_X5_sideOf rfl rfl rfl (by decide +kernel) ⟨Nat.le_of_ble_eq_true rfl, Nat.le_of_ble_eq_true rfl⟩) (zPc_V (ci := 2) (q0 := 0) zB_T hP hK rfl rfl [0] rfl (fun _ _ _ => trivial)) rfl rfl hl.1 rfl (lv_room (Nat.le_of_ble_eq_true rfl)) dX5_leadOfTurn_21 ⟨Nat.zero_le _, Nat.zero_le _⟩) hP hS (fun H locs hP hS => ?_)
  refine zz_r (y := aq) (zSd_q hsd) ?_
  refine va_get (D := (dC, dI)) (ci := 1) (v := .long (lN oth)) (C := RX3) (T := TX3) (N := 2) hx hb hts hinX3 hown hK hP 2 rfl rfl 0 (by decide) (hts (.fieldLink RX5 70 "RoyalUrTable$Side" "layout" "J") (List.mem_of_getElem? (i := 2) rfl)) (fun _ h9 => h9) rfl dX5_leadOfTurn_24 ?_
  refine zro_i (va_runS (As := [.long (lN oth)]) (rest := [.int (nI (psum own 16))]) ⟨hx, hb, hml, hown, hts⟩ (c_X2_sumOfPlaces l oth (by omega)) (va_cwS 1 hts gX5_leadOfTurn_X2_sumOfPlaces rfl rfl rfl (by decide +kernel) ⟨Nat.le_of_ble_eq_true rfl, Nat.le_of_ble_eq_true rfl⟩) zPu rfl rfl hl.1 rfl (lv_room (Nat.le_of_ble_eq_true rfl)) dX5_leadOfTurn_27 ⟨Nat.zero_le _, Nat.zero_le _⟩) hP hS (fun H locs hP hS => ?_)
  refine lv_isub hx hb dX5_leadOfTurn_30 ?_
  exact W.iret (v := (nI (psum own 16)) - (nI (psum oth 16))) hx hb hr (fun t ht hW => ⟨⟨_, (), rfl, rfl, trivial⟩, hS.F ht⟩) hS.2.2 dX5_leadOfTurn_31

set_option maxHeartbeats 4000000 in
set_option maxRecDepth 100000 in
theorem c_X5_countBetter (l : Launch) (dC : Nat → ClassId) (dI : Nat → Nat → Nat) (cyI cyJ : ClassId) (ax a0 a1 ae aw : Nat) (pI tI mk wn cnt : Int32) (wb : Nat → Int32) (pl : Nat) (hpl : pl ≤ 15) (w9 : Int32) : Met l yX5_countBetter wsX5_countBetter ({ frames := 0, cells := 0, slots := 0, locals := 0 }) (zPc [.ref ax, .int (nI pl), .int w9] (dC, dI) vwCl [(cyI, .int), (cyJ, .long)] [(ax, .inr (2, [.ref a0, .ref a1, .ref ae, .ref aw, .int pI, .int tI, .int mk, .int wn, .int cnt])), (aw, .inl (cyI, 15, .inl wb))] (fun _ => True)) (va_Qi (fun (r : Int32) (_ : Unit) => r = nI (zCB wb pl w9 15)) (fun _ _ => True) zF) 0 0 zF := by
  refine Met.ofW (cc := cX5_countBetter) (maxL := 5) (ret := (some .int)) (by decide) rfl ?_
  intro p e s m args below meth c s₁ B hml hv
  obtain ⟨rfl, hP, hK, hX⟩ := hv
  have hx := B.exec
  have hb := B.bytes
  have hr := B.returns
  have hts := atoms_spec (ws := wsX5_countBetter) B.pre
  have hown : s.vm.findClass RX5 = some m.cls := findClass_of_methodNamed B.named
  have hlocks := B.notSynchronized
  have hinX5 : ∀ w ∈ wsX50, w ∈ wsX5_countBetter := by decide +kernel
  have hl := lv_entry ([.ref ax, .int (nI pl), .int w9]) (n := 5) (Nat.le_of_ble_eq_true rfl)
  rw [lg_entry_eq]
  generalize (lg_sl ([.ref ax, .int (nI pl), .int w9]) ++ List.replicate (5 - (lg_sl ([.ref ax, .int (nI pl), .int w9])).length) Slot.unset).toArray = ls at hl ⊢
  have hl : lv_has ls 5 [(0, .ref ax), (1, .int (nI pl)), (2, .int w9)] := hl
  have hS : va_S zF s.heap s.heap [] := va_S.rf
  generalize hQe : MQ below _ _ _ _ _ _ = Q
  refine lv_iconst (v := 0) hx hb dX5_countBetter_0 (by decide) ?_
  refine lv_istore_n (lv' := [(3, .int 0), (0, .ref ax), (1, .int (nI pl)), (2, .int w9)]) hx hb dX5_countBetter_1 rfl hl (by decide) rfl (fun ls hl => ?_)
  refine lv_iconst (v := 0) hx hb dX5_countBetter_2 (by decide) ?_
  refine lv_istore (lv' := [(4, .int 0), (3, .int 0), (0, .ref ax), (1, .int (nI pl)), (2, .int w9)]) hx hb dX5_countBetter_3 hl (by decide) rfl (fun ls hl => ?_)
  have lp : ∀ (n9 : Nat) (i : Nat) (cv : Nat), i ≤ 15 → cv = zCB wb pl w9 i → 15 - i < n9 → ∀ (H : Heap) (locs : List Loc), va_P (dC, dI) vwCl [(ax, .inr (2, [.ref a0, .ref a1, .ref ae, .ref aw, .int pI, .int tI, .int mk, .int wn, .int cnt])), (aw, .inl (cyI, 15, .inl wb))] H → va_S zF s.heap H locs → ∀ ls : Array Slot, lv_has ls 5 [(4, .int (nI i)), (3, .int (nI cv)), (0, .ref ax), (1, .int (nI pl)), (2, .int w9)] → W p l e (headSpec wsX5_countBetter ({ frames := 0, cells := 0, slots := 0, locals := 0 })).room s m ([.ref ax, .int (nI pl), .int w9] : List Value).toArray below meth c H locs 0 0 Q (F0 m 5 ls []) := by
    intro n9
    induction n9 with
    | zero => intro i cv hi2 hcv hm9; exact absurd hm9 (Nat.not_lt_zero _)
    | succ n9 ih5 =>
      intro i cv hi2 hcv hm9 H locs hP hS ls hl
      refine lv_iload hx hb dX5_countBetter_5 (lv_at hl 0 rfl) ?_
      refine lv_aload_n hx hb dX5_countBetter_7 rfl (lv_at hl 2 rfl) ?_
      refine va_get (D := (dC, dI)) (ci := 2) (v := .ref aw) (C := RX5) (T := TX5) (N := 9) hx hb hts hinX5 hown hK hP 0 rfl rfl 3 (by decide) (hts (.fieldLink RX5 28 "RoyalUrTable" "worthsBehind" "[I") (List.mem_of_getElem? (i := 1) rfl)) (fun _ h9 => h9) rfl dX5_countBetter_8 ?_
      refine va_alen (v := 15) hx hb hK hP 1 0 rfl rfl rfl dX5_countBetter_11 ?_
      refine lv_icmp_ge (tgt := 52) hx hb dX5_countBetter_12 (by decide) (fun c_12 => ?_) (fun c_12 => ?_)
      · skip
        have c_12 : 15 ≤ i := (nI_leI (a := 15) (b := i) (by omega) (by omega)).mp c_12
        refine lv_iload_n hx hb dX5_countBetter_52 rfl (lv_at hl 1 rfl) ?_
        subst hQe
        exact W.iret (v := nI cv) hx hb hr (fun t ht hW => ⟨⟨_, (), rfl, (by rw [hcv, show i = 15 by omega]), trivial⟩, hS.F ht⟩) hS.2.2 dX5_countBetter_53
      · skip
        have c_12 : ¬ 15 ≤ i := fun h9 => c_12 ((nI_leI (a := 15) (b := i) (by omega) (by omega)).mpr h9)
        refine lv_aload_n hx hb dX5_countBetter_15 rfl (lv_at hl 2 rfl) ?_
        refine va_get (D := (dC, dI)) (ci := 2) (v := .ref aw) (C := RX5) (T := TX5) (N := 9) hx hb hts hinX5 hown hK hP 0 rfl rfl 3 (by decide) (hts (.fieldLink RX5 28 "RoyalUrTable" "worthsBehind" "[I") (List.mem_of_getElem? (i := 1) rfl)) (fun _ h9 => h9) rfl dX5_countBetter_16 ?_
        refine lv_iload hx hb dX5_countBetter_19 (lv_at hl 0 rfl) ?_
        refine zi_iald hx hb hK hP 1 0 rfl rfl (j := i) rfl (by omega) (by decide) dX5_countBetter_21 ?_
        refine lv_iload_n hx hb dX5_countBetter_22 rfl (lv_at hl 4 rfl) ?_
        refine lv_icmp_gt (tgt := 43) hx hb dX5_countBetter_23 (by decide) (fun c_23 => ?_) (fun c_23 => ?_)
        · skip
          refine lv_iinc (v := nI (cv + 1)) (lv' := [(3, .int (nI (cv + 1))), (4, .int (nI i)), (0, .ref ax), (1, .int (nI pl)), (2, .int w9)]) hx hb dX5_countBetter_43 hl (k := 1) rfl (nI_1 cv) (by decide) rfl (fun ls hl => ?_)
          refine lv_iinc (v := nI (i + 1)) (lv' := [(4, .int (nI (i + 1))), (3, .int (nI (cv + 1))), (0, .ref ax), (1, .int (nI pl)), (2, .int w9)]) hx hb dX5_countBetter_46 hl (k := 1) rfl (nI_1 i) (by decide) rfl (fun ls hl => ?_)
          refine lv_goto (tgt := 5) hx hb dX5_countBetter_49 (by decide) ?_
          exact ih5 (i + 1) _ (by omega) (by rw [zCB_s, if_pos (Or.inl c_23), hcv]) (by omega) _ _ hP hS _ (lv_sub hl [0, 1, 2, 3, 4] rfl)
        · skip
          refine lv_aload_n hx hb dX5_countBetter_26 rfl (lv_at hl 2 rfl) ?_
          refine va_get (D := (dC, dI)) (ci := 2) (v := .ref aw) (C := RX5) (T := TX5) (N := 9) hx hb hts hinX5 hown hK hP 0 rfl rfl 3 (by decide) (hts (.fieldLink RX5 28 "RoyalUrTable" "worthsBehind" "[I") (List.mem_of_getElem? (i := 1) rfl)) (fun _ h9 => h9) rfl dX5_countBetter_27 ?_
          refine lv_iload hx hb dX5_countBetter_30 (lv_at hl 0 rfl) ?_
          refine zi_iald hx hb hK hP 1 0 rfl rfl (j := i) rfl (by omega) (by decide) dX5_countBetter_32 ?_
          refine lv_iload_n hx hb dX5_countBetter_33 rfl (lv_at hl 4 rfl) ?_
          refine lv_icmp_ne (tgt := 46) hx hb dX5_countBetter_34 (by decide) (fun c_34 => ?_) (fun c_34 => ?_)
          · skip
            refine lv_iinc (v := nI (i + 1)) (lv' := [(4, .int (nI (i + 1))), (3, .int (nI cv)), (0, .ref ax), (1, .int (nI pl)), (2, .int w9)]) hx hb dX5_countBetter_46 hl (k := 0) rfl (nI_1 i) (by decide) rfl (fun ls hl => ?_)
            refine lv_goto (tgt := 5) hx hb dX5_countBetter_49 (by decide) ?_
            exact ih5 (i + 1) _ (by omega) (by rw [zCB_s, if_neg (fun h => by rcases h with h | h; exact c_23 h; exact c_34 h.1), Nat.add_zero]; exact hcv) (by omega) _ _ hP hS _ (lv_sub hl [0, 1, 2, 3, 4] rfl)
          · skip
            refine lv_iload hx hb dX5_countBetter_37 (lv_at hl 0 rfl) ?_
            refine lv_iload_n hx hb dX5_countBetter_39 rfl (lv_at hl 3 rfl) ?_
            refine lv_icmp_ge (tgt := 46) hx hb dX5_countBetter_40 (by decide) (fun c_40 => ?_) (fun c_40 => ?_)
            · skip
              have c_40 : pl ≤ i := (nI_leI (a := pl) (b := i) (by omega) (by omega)).mp c_40
              refine lv_iinc (v := nI (i + 1)) (lv' := [(4, .int (nI (i + 1))), (3, .int (nI cv)), (0, .ref ax), (1, .int (nI pl)), (2, .int w9)]) hx hb dX5_countBetter_46 hl (k := 0) rfl (nI_1 i) (by decide) rfl (fun ls hl => ?_)
              refine lv_goto (tgt := 5) hx hb dX5_countBetter_49 (by decide) ?_
              exact ih5 (i + 1) _ (by omega) (by rw [zCB_s, if_neg (fun h => by rcases h with h | h; exact c_23 h; exact absurd h.2 (by omega)), Nat.add_zero]; exact hcv) (by omega) _ _ hP hS _ (lv_sub hl [0, 1, 2, 3, 4] rfl)
            · skip
              have c_40 : ¬ pl ≤ i := fun h9 => c_40 ((nI_leI (a := pl) (b := i) (by omega) (by omega)).mpr h9)
              refine lv_iinc (v := nI (cv + 1)) (lv' := [(3, .int (nI (cv + 1))), (4, .int (nI i)), (0, .ref ax), (1, .int (nI pl)), (2, .int w9)]) hx hb dX5_countBetter_43 hl (k := 1) rfl (nI_1 cv) (by decide) rfl (fun ls hl => ?_)
              refine lv_iinc (v := nI (i + 1)) (lv' := [(4, .int (nI (i + 1))), (3, .int (nI (cv + 1))), (0, .ref ax), (1, .int (nI pl)), (2, .int w9)]) hx hb dX5_countBetter_46 hl (k := 1) rfl (nI_1 i) (by decide) rfl (fun ls hl => ?_)
              refine lv_goto (tgt := 5) hx hb dX5_countBetter_49 (by decide) ?_
              exact ih5 (i + 1) _ (by omega) (by rw [zCB_s, if_pos (Or.inr ⟨c_34, by omega⟩), hcv]) (by omega) _ _ hP hS _ (lv_sub hl [0, 1, 2, 3, 4] rfl)
  exact lp 16 0 0 (by omega) rfl (by omega) _ _ hP hS _ (lv_sub hl [0, 1, 2, 3, 4] rfl)

set_option maxHeartbeats 4000000 in
set_option maxRecDepth 100000 in
theorem c_X5_worthForTurn (l : Launch) (dC : Nat → ClassId) (dI : Nat → Nat → Nat) (cyI cyJ : ClassId) (tb ax a0 a1 ae aw at_ ao aq : Nat) (mk wn cnt lo lq : Int32) (wf : Nat → Int32) (k kk tn own oth mm d : Nat) (hsd : zSd tn a0 a1 ao aq) (hO : zok k own) (hQ : zok k oth) (hk1 : 1 ≤ k) (hkk : kk ≤ 60) (htb : zTb kk wf) (hmk : zmk mk mm) (hmm : mm ≤ 4) (hd : d ≤ 3) (hnd : [ax, ao, aq, ae, at_].Nodup) : Met l yX5_worthForTurn wsX5_worthForTurn ({ frames := 20, cells := 0, slots := 0, locals := 600 }) (zPc [.ref ax, .int (nI d)] (dC, dI) vwCl [(cyI, .int), (cyJ, .long)] [(ax, .inr (2, [.ref a0, .ref a1, .ref ae, .ref aw, .int (nI k), .int (nI tn), .int mk, .int wn, .int cnt])), (ao, .inr (1, [.long (lN own), .int lo])), (aq, .inr (1, [.long (lN oth), .int lq])), (ae, .inr (0, [.ref at_, .int (nI kk)])), (at_, .inl (cyI, 13500, .inl wf))] (fun U => zX tb (zA [ax, ao, aq, ae, at_]) U U.heap)) (va_Qi (fun (r : Int32) u => r = zWT k tn wn mk mm d own oth ∧ zTb u.1 u.2 ∧ u.1 ≤ 60) (fun (u : Nat × (Nat → Int32)) t => va_P (dC, dI) vwCl ([(ax, .inr (2, [.ref a0, .ref a1, .ref ae, .ref aw, .int (nI k), .int (nI tn), .int mk, .int wn, .int cnt])), (ao, .inr (1, [.long (lN own), .int lo])), (aq, .inr (1, [.long (lN oth), .int lq])), (ae, .inr (0, [.ref at_, .int (nI u.1)])), (at_, .inl (cyI, 13500, .inl u.2))]) t.heap) (zA [ax, ao, aq, ae, at_])) 0 0 (zA [ax, ao, aq, ae, at_]) := by
  refine Met.ofW (cc := cX5_worthForTurn) (maxL := 6) (ret := (some .int)) (by decide) rfl ?_
  intro p e s m args below meth c s₁ B hml hv
  obtain ⟨rfl, hP, hK, hX⟩ := hv
  have hx := B.exec
  have hb := B.bytes
  have hr := B.returns
  have hts := atoms_spec (ws := wsX5_worthForTurn) B.pre
  have hown : s.vm.findClass RX5 = some m.cls := findClass_of_methodNamed B.named
  have hlocks := B.notSynchronized
  have hinX3 : ∀ w ∈ wsX30, w ∈ wsX5_worthForTurn := by decide +kernel
  have hinX5 : ∀ w ∈ wsX50, w ∈ wsX5_worthForTurn := by decide +kernel
  have hl := lv_entry ([.ref ax, .int (nI d)]) (n := 6) (Nat.le_of_ble_eq_true rfl)
  rw [lg_entry_eq]
  generalize (lg_sl ([.ref ax, .int (nI d)]) ++ List.replicate (6 - (lg_sl ([.ref ax, .int (nI d)])).length) Slot.unset).toArray = ls at hl ⊢
  have hl : lv_has ls 6 [(0, .ref ax), (1, .int (nI d))] := hl
  have hS : va_S (zA [ax, ao, aq, ae, at_]) s.heap s.heap [] := va_S.rf
  have hDD : zD (zA [ax, ao, aq, ae, at_]) [ax, ao, aq, ae, at_] := ⟨hnd, fun _ h => h⟩
  have htn := zSd_le hsd
  refine lv_aload_n hx hb dX5_worthForTurn_0 rfl (lv_at hl 0 rfl) ?_
  refine va_get (D := (dC, dI)) (ci := 2) (v := .int wn) (C := RX5) (T := TX5) (N := 9) hx hb hts hinX5 hown hK hP 0 rfl rfl 7 (by decide) (hts (.fieldLink RX5 42 "RoyalUrTable" "winner" "I") (List.mem_of_getElem? (i := 1) rfl)) (fun _ h9 => h9) rfl dX5_worthForTurn_1 ?_
  refine lv_iconst (v := -1) hx hb dX5_worthForTurn_4 (by decide) ?_
  refine lv_icmp_eq (tgt := 26) hx hb dX5_worthForTurn_5 (by decide) (fun c_5 => ?_) (fun c_5 => ?_)
  · skip
    refine lv_aload_n hx hb dX5_worthForTurn_26 rfl (lv_at hl 0 rfl) ?_
    refine va_get (D := (dC, dI)) (ci := 2) (v := .ref ae) (C := RX5) (T := TX5) (N := 9) hx hb hts hinX5 hown hK hP 0 rfl rfl 2 (by decide) (hts (.fieldLink RX5 22 "RoyalUrTable" "endings" "LRoyalUrTable$Endings;") (List.mem_of_getElem? (i := 4) rfl)) (fun _ h9 => h9) rfl dX5_worthForTurn_27 ?_
    refine lv_bipush (v := 40) hx hb dX5_worthForTurn_30 (by decide) ?_
    refine zrw_v (w1 := fun u : Nat × (Nat → Int32) => [(ae, .inr (0, [.ref at_, .int (nI u.1)])), (at_, .inl (cyI, 13500, .inl u.2))]) (al := [ae, at_]) (va_runV (As := [.int 40]) (rest := []) ⟨hx, hb, hml, hown, hts⟩ (c_X1_fillUpTo l dC dI cyI cyJ tb ae at_ wf kk 40 hkk (by omega) htb (z_nd hDD.1 [3, 4] (by decide) rfl)) (cwV 1 hts gX5_worthForTurn_X1_fillUpTo rfl rfl rfl (by decide +kernel) ⟨(show 5 + 1 ≤ 20 by omega), (show 8 + (4 + 11) + 129 ≤ 600 by omega)⟩) (zPc_V (ci := 0) (q0 := 3) zB_X hP hK rfl rfl [3, 4] rfl (zX_at hX hS (zA_pl (al := [ax, ao, aq, ae, at_]) (bl := [ae, at_]) [3, 4] rfl))) rfl rfl hl.1 rfl (lv_room (Nat.le_of_ble_eq_true rfl)) dX5_worthForTurn_32 ⟨Nat.zero_le _, Nat.zero_le _⟩) hP hDD hS [3, 4] rfl (fun _ => rfl) (fun u_32 H locs hw_32 hP hS => ?_)
    have hP : va_P (dC, dI) vwCl [(ax, .inr (2, [.ref a0, .ref a1, .ref ae, .ref aw, .int (nI k), .int (nI tn), .int mk, .int wn, .int cnt])), (ao, .inr (1, [.long (lN own), .int lo])), (aq, .inr (1, [.long (lN oth), .int lq])), (ae, .inr (0, [.ref at_, .int (nI u_32.1)])), (at_, .inl (cyI, 13500, .inl u_32.2))] H := hP
    refine lv_aload_n hx hb dX5_worthForTurn_35 rfl (lv_at hl 0 rfl) ?_
    refine lv_aload_n hx hb dX5_worthForTurn_36 rfl (lv_at hl 0 rfl) ?_
    refine va_get (D := (dC, dI)) (ci := 2) (v := .int (nI tn)) (C := RX5) (T := TX5) (N := 9) hx hb hts hinX5 hown hK hP 0 rfl rfl 5 (by decide) (hts (.fieldLink RX5 59 "RoyalUrTable" "turn" "I") (List.mem_of_getElem? (i := 2) rfl)) (fun _ h9 => h9) rfl dX5_worthForTurn_37 ?_
    refine zro_r (va_runV (As := [.int (nI tn)]) (rest := []) ⟨hx, hb, hml, hown, hts⟩ (c_X5_sideOf l dC dI cyI cyJ ax a0 a1 ae aw (nI k) (nI tn) mk wn cnt tn (by omega)) (cwV 1 hts gX5_worthForTurn_X5_sideOf rfl rfl rfl (by decide +kernel) ⟨(show 0 + 1 ≤ 20 by omega), (show 8 + (2 + 11) + 0 ≤ 600 by omega)⟩) (zPc_V (ci := 2) (q0 := 0) zB_T hP hK rfl rfl [0] rfl (fun _ _ _ => trivial)) rfl rfl hl.1 rfl (lv_room (Nat.le_of_ble_eq_true rfl)) dX5_worthForTurn_40 ⟨Nat.zero_le _, Nat.zero_le _⟩) hP hS (fun H locs hP hS => ?_)
    refine zz_r (y := ao) (zSd_o hsd) ?_
    refine va_get (D := (dC, dI)) (ci := 1) (v := .long (lN own)) (C := RX3) (T := TX3) (N := 2) hx hb hts hinX3 hown hK hP 1 rfl rfl 0 (by decide) (hts (.fieldLink RX5 70 "RoyalUrTable$Side" "layout" "J") (List.mem_of_getElem? (i := 5) rfl)) (fun _ h9 => h9) rfl dX5_worthForTurn_43 ?_
    refine lv_lstore_n (lv' := [(2, .long (lN own)), (0, .ref ax), (1, .int (nI d))]) hx hb dX5_worthForTurn_46 rfl hl (by decide) rfl (fun ls hl => ?_)
    refine lv_aload_n hx hb dX5_worthForTurn_47 rfl (lv_at hl 1 rfl) ?_
    refine lv_iconst (v := 1) hx hb dX5_worthForTurn_48 (by decide) ?_
    refine lv_aload_n hx hb dX5_worthForTurn_49 rfl (lv_at hl 1 rfl) ?_
    refine va_get (D := (dC, dI)) (ci := 2) (v := .int (nI tn)) (C := RX5) (T := TX5) (N := 9) hx hb hts hinX5 hown hK hP 0 rfl rfl 5 (by decide) (hts (.fieldLink RX5 59 "RoyalUrTable" "turn" "I") (List.mem_of_getElem? (i := 2) rfl)) (fun _ h9 => h9) rfl dX5_worthForTurn_50 ?_
    refine lv_isub hx hb dX5_worthForTurn_53 ?_
    refine zz_i (y := nI (1 - tn)) (pk_sub (a := 1) (b := tn) (by omega)) ?_
    refine zro_r (va_runV (As := [.int (nI (1 - tn))]) (rest := []) ⟨hx, hb, hml, hown, hts⟩ (c_X5_sideOf l dC dI cyI cyJ ax a0 a1 ae aw (nI k) (nI tn) mk wn cnt (1 - tn) (by omega)) (cwV 1 hts gX5_worthForTurn_X5_sideOf rfl rfl rfl (by decide +kernel) ⟨(show 0 + 1 ≤ 20 by omega), (show 8 + (2 + 11) + 0 ≤ 600 by omega)⟩) (zPc_V (ci := 2) (q0 := 0) zB_T hP hK rfl rfl [0] rfl (fun _ _ _ => trivial)) rfl rfl hl.1 rfl (lv_room (Nat.le_of_ble_eq_true rfl)) dX5_worthForTurn_54 ⟨Nat.zero_le _, Nat.zero_le _⟩) hP hS (fun H locs hP hS => ?_)
    refine zz_r (y := aq) (zSd_q hsd) ?_
    refine va_get (D := (dC, dI)) (ci := 1) (v := .long (lN oth)) (C := RX3) (T := TX3) (N := 2) hx hb hts hinX3 hown hK hP 2 rfl rfl 0 (by decide) (hts (.fieldLink RX5 70 "RoyalUrTable$Side" "layout" "J") (List.mem_of_getElem? (i := 5) rfl)) (fun _ h9 => h9) rfl dX5_worthForTurn_57 ?_
    refine lv_lstore (lv' := [(4, .long (lN oth)), (2, .long (lN own)), (0, .ref ax), (1, .int (nI d))]) hx hb dX5_worthForTurn_60 hl (by decide) rfl (fun ls hl => ?_)
    refine lv_aload_n hx hb dX5_worthForTurn_62 rfl (lv_at hl 2 rfl) ?_
    refine va_get (D := (dC, dI)) (ci := 2) (v := .int mk) (C := RX5) (T := TX5) (N := 9) hx hb hts hinX5 hown hK hP 0 rfl rfl 6 (by decide) (hts (.fieldLink RX5 46 "RoyalUrTable" "marksTold" "I") (List.mem_of_getElem? (i := 6) rfl)) (fun _ h9 => h9) rfl dX5_worthForTurn_63 ?_
    refine lv_iconst (v := -1) hx hb dX5_worthForTurn_66 (by decide) ?_
    refine lv_icmp_ne (tgt := 83) hx hb dX5_worthForTurn_67 (by decide) (fun c_67 => ?_) (fun c_67 => ?_)
    · skip
      refine lv_aload_n hx hb dX5_worthForTurn_83 rfl (lv_at hl 2 rfl) ?_
      refine lv_lload_n hx hb dX5_worthForTurn_84 rfl (lv_at hl 1 rfl) ?_
      refine lv_lload hx hb dX5_worthForTurn_85 (lv_at hl 0 rfl) ?_
      refine lv_aload_n hx hb dX5_worthForTurn_87 rfl (lv_at hl 2 rfl) ?_
      refine zro_i (va_runV (As := []) (rest := [.long (lN oth), .long (lN own), .ref ax]) ⟨hx, hb, hml, hown, hts⟩ (c_X5_leadOfTurn l dC dI cyI cyJ ax a0 a1 ae aw ao aq mk wn cnt lo lq k tn own oth hsd hO hQ) (cwV 0 hts gX5_worthForTurn_X5_leadOfTurn rfl rfl rfl (by decide +kernel) ⟨(show 2 + 1 ≤ 20 by omega), (show 8 + (1 + 11) + 45 ≤ 600 by omega)⟩) (zPc_V (ci := 2) (q0 := 0) zB_T hP hK rfl rfl [0, 1, 2] rfl (fun _ _ _ => trivial)) rfl rfl hl.1 rfl (lv_room (Nat.le_of_ble_eq_true rfl)) dX5_worthForTurn_88 ⟨Nat.zero_le _, Nat.zero_le _⟩) hP hS (fun H locs hP hS => ?_)
      refine lv_aload_n hx hb dX5_worthForTurn_91 rfl (lv_at hl 2 rfl) ?_
      refine va_get (D := (dC, dI)) (ci := 2) (v := .int mk) (C := RX5) (T := TX5) (N := 9) hx hb hts hinX5 hown hK hP 0 rfl rfl 6 (by decide) (hts (.fieldLink RX5 46 "RoyalUrTable" "marksTold" "I") (List.mem_of_getElem? (i := 6) rfl)) (fun _ h9 => h9) rfl dX5_worthForTurn_92 ?_
      refine zz_i (y := nI mm) (zmk_ne hmk c_67) ?_
      refine lv_iload_n hx hb dX5_worthForTurn_95 rfl (lv_at hl 3 rfl) ?_
      refine zro_i (va_runV (As := [.long (lN own), .long (lN oth), .int (zLd own oth), .int (nI mm), .int (nI d)]) (rest := []) ⟨hx, hb, hml, hown, hts⟩ (c_X5_worthBehindThrow l dC dI cyI cyJ tb ax a0 a1 ae aw at_ (nI tn) mk wn cnt (nI u_32.1) u_32.2 k u_32.1 hk1 hw_32.2.2 hw_32.2.1 hw_32.1 d (by omega) own oth mm hO hQ (by omega)) (cwV 5 hts gX5_worthForTurn_X5_worthBehindThrow rfl rfl rfl (by decide +kernel) ⟨(show (3 * d + 8) + 1 ≤ 20 by omega), (show 8 + (10 + 11) + (92 * d + 263) ≤ 600 by omega)⟩) (zPc_V (ci := 2) (q0 := 0) zB_X hP hK rfl rfl [0, 3, 4] rfl (zX_at hX hS zF_A)) rfl rfl hl.1 rfl (lv_room (Nat.le_of_ble_eq_true rfl)) dX5_worthForTurn_96 ⟨Nat.zero_le _, Nat.zero_le _⟩) hP hS (fun H locs hP hS => ?_)
      exact W.iret (v := nI (zBT (zV k d) own oth mm)) hx hb hr (fun t ht hW => ⟨⟨_, u_32, rfl, ⟨(by rw [zWT, if_pos c_5, if_neg c_67]), hw_32.1, hw_32.2.2⟩, zh ht hP⟩, hS.F ht⟩) hS.2.2 dX5_worthForTurn_99
    · skip
      refine lv_aload_n hx hb dX5_worthForTurn_70 rfl (lv_at hl 2 rfl) ?_
      refine lv_lload_n hx hb dX5_worthForTurn_71 rfl (lv_at hl 1 rfl) ?_
      refine lv_lload hx hb dX5_worthForTurn_72 (lv_at hl 0 rfl) ?_
      refine lv_aload_n hx hb dX5_worthForTurn_74 rfl (lv_at hl 2 rfl) ?_
      refine zro_i (va_runV (As := []) (rest := [.long (lN oth), .long (lN own), .ref ax]) ⟨hx, hb, hml, hown, hts⟩ (c_X5_leadOfTurn l dC dI cyI cyJ ax a0 a1 ae aw ao aq mk wn cnt lo lq k tn own oth hsd hO hQ) (cwV 0 hts gX5_worthForTurn_X5_leadOfTurn rfl rfl rfl (by decide +kernel) ⟨(show 2 + 1 ≤ 20 by omega), (show 8 + (1 + 11) + 45 ≤ 600 by omega)⟩) (zPc_V (ci := 2) (q0 := 0) zB_T hP hK rfl rfl [0, 1, 2] rfl (fun _ _ _ => trivial)) rfl rfl hl.1 rfl (lv_room (Nat.le_of_ble_eq_true rfl)) dX5_worthForTurn_75 ⟨Nat.zero_le _, Nat.zero_le _⟩) hP hS (fun H locs hP hS => ?_)
      refine lv_iload_n hx hb dX5_worthForTurn_78 rfl (lv_at hl 3 rfl) ?_
      refine zro_i (va_runV (As := [.long (lN own), .long (lN oth), .int (zLd own oth), .int (nI d)]) (rest := []) ⟨hx, hb, hml, hown, hts⟩ (c_X5_worthToThrow l dC dI cyI cyJ tb ax a0 a1 ae aw at_ (nI tn) mk wn cnt (nI u_32.1) u_32.2 k u_32.1 hk1 hw_32.2.2 hw_32.2.1 hw_32.1 d (by omega) own oth hO hQ) (cwV 4 hts gX5_worthForTurn_X5_worthToThrow rfl rfl rfl (by decide +kernel) ⟨(show (3 * d + 6) + 1 ≤ 20 by omega), (show 8 + (10 + 11) + (92 * d + 200) ≤ 600 by omega)⟩) (zPc_V (ci := 2) (q0 := 0) zB_X hP hK rfl rfl [0, 3, 4] rfl (zX_at hX hS zF_A)) rfl rfl hl.1 rfl (lv_room (Nat.le_of_ble_eq_true rfl)) dX5_worthForTurn_79 ⟨Nat.zero_le _, Nat.zero_le _⟩) hP hS (fun H locs hP hS => ?_)
      exact W.iret (v := nI (zV k d own oth)) hx hb hr (fun t ht hW => ⟨⟨_, u_32, rfl, ⟨(by rw [zWT, if_pos c_5, if_pos c_67]), hw_32.1, hw_32.2.2⟩, zh ht hP⟩, hS.F ht⟩) hS.2.2 dX5_worthForTurn_82
  · skip
    refine lv_aload_n hx hb dX5_worthForTurn_8 rfl (lv_at hl 0 rfl) ?_
    refine va_get (D := (dC, dI)) (ci := 2) (v := .int wn) (C := RX5) (T := TX5) (N := 9) hx hb hts hinX5 hown hK hP 0 rfl rfl 7 (by decide) (hts (.fieldLink RX5 42 "RoyalUrTable" "winner" "I") (List.mem_of_getElem? (i := 1) rfl)) (fun _ h9 => h9) rfl dX5_worthForTurn_9 ?_
    refine lv_aload_n hx hb dX5_worthForTurn_12 rfl (lv_at hl 0 rfl) ?_
    refine va_get (D := (dC, dI)) (ci := 2) (v := .int (nI tn)) (C := RX5) (T := TX5) (N := 9) hx hb hts hinX5 hown hK hP 0 rfl rfl 5 (by decide) (hts (.fieldLink RX5 59 "RoyalUrTable" "turn" "I") (List.mem_of_getElem? (i := 2) rfl)) (fun _ h9 => h9) rfl dX5_worthForTurn_13 ?_
    refine lv_icmp_ne (tgt := 24) hx hb dX5_worthForTurn_16 (by decide) (fun c_16 => ?_) (fun c_16 => ?_)
    · skip
      refine lv_iconst (v := 0) hx hb dX5_worthForTurn_24 (by decide) ?_
      exact W.iret (v := 0) hx hb hr (fun t ht hW => ⟨⟨_, (kk, wf), rfl, ⟨(by rw [zWT, if_neg c_5, if_neg c_16]), htb, hkk⟩, zh ht hP⟩, hS.F ht⟩) hS.2.2 dX5_worthForTurn_25
    · skip
      refine lv_ldc (v := 1000000000) hx hb hown (hts (.constant RX5 105 (1000000000)) (List.mem_of_getElem? (i := 3) rfl)) dX5_worthForTurn_19 ?_
      refine lv_goto (tgt := 25) hx hb dX5_worthForTurn_21 (by decide) ?_
      exact W.iret (v := 1000000000) hx hb hr (fun t ht hW => ⟨⟨_, (kk, wf), rfl, ⟨(by rw [zWT, if_neg c_5, if_pos c_16]), htb, hkk⟩, zh ht hP⟩, hS.F ht⟩) hS.2.2 dX5_worthForTurn_25

set_option maxHeartbeats 4000000 in
set_option maxRecDepth 100000 in
theorem c_X5_noteWorthsBehind (l : Launch) (dC : Nat → ClassId) (dI : Nat → Nat → Nat) (cyI cyJ : ClassId) (tb ax a0 a1 ae aw at_ ao aq : Nat) (mk wn cnt lo lq : Int32) (wf wb : Nat → Int32) (k kk tn own oth mm d : Nat) (hsd : zSd tn a0 a1 ao aq) (hO : zok k own) (hQ : zok k oth) (hk1 : 1 ≤ k) (hkk : kk ≤ 60) (htb : zTb kk wf) (hmk : zmk mk mm) (hmm : mm ≤ 4) (hd : d ≤ 3) (hnd : [ax, ao, aq, ae, at_, aw].Nodup) : Met l yX5_noteWorthsBehind wsX5_noteWorthsBehind ({ frames := 20, cells := 0, slots := 0, locals := 600 }) (zPc [.ref ax, .int (nI d)] (dC, dI) vwCl [(cyI, .int), (cyJ, .long)] [(ax, .inr (2, [.ref a0, .ref a1, .ref ae, .ref aw, .int (nI k), .int (nI tn), .int mk, .int wn, .int cnt])), (ao, .inr (1, [.long (lN own), .int lo])), (aq, .inr (1, [.long (lN oth), .int lq])), (ae, .inr (0, [.ref at_, .int (nI kk)])), (at_, .inl (cyI, 13500, .inl wf)), (aw, .inl (cyI, 15, .inl wb))] (fun U => zX tb (zA [ax, ao, aq, ae, at_, aw]) U U.heap)) (va_Qv (fun u => zTb u.1 u.2.1 ∧ u.1 ≤ 60 ∧ ∀ j, j < 15 → u.2.2 j = zWB k d own oth mm j) (fun (u : Nat × (Nat → Int32) × (Nat → Int32)) t => va_P (dC, dI) vwCl ([(ax, .inr (2, [.ref a0, .ref a1, .ref ae, .ref aw, .int (nI k), .int (nI tn), .int mk, .int wn, .int cnt])), (ao, .inr (1, [.long (lN own), .int lo])), (aq, .inr (1, [.long (lN oth), .int lq])), (ae, .inr (0, [.ref at_, .int (nI u.1)])), (at_, .inl (cyI, 13500, .inl u.2.1)), (aw, .inl (cyI, 15, .inl u.2.2))]) t.heap) (zA [ax, ao, aq, ae, at_, aw])) 0 0 (zA [ax, ao, aq, ae, at_, aw]) := by
  refine Met.ofW (cc := cX5_noteWorthsBehind) (maxL := 8) (ret := none) (by decide) rfl ?_
  intro p e s m args below meth c s₁ B hml hv
  obtain ⟨rfl, hP, hK, hX⟩ := hv
  have hx := B.exec
  have hb := B.bytes
  have hr := B.returns
  have hts := atoms_spec (ws := wsX5_noteWorthsBehind) B.pre
  have hown : s.vm.findClass RX5 = some m.cls := findClass_of_methodNamed B.named
  have hlocks := B.notSynchronized
  have hinX3 : ∀ w ∈ wsX30, w ∈ wsX5_noteWorthsBehind := by decide +kernel
  have hinX5 : ∀ w ∈ wsX50, w ∈ wsX5_noteWorthsBehind := by decide +kernel
  have hl := lv_entry ([.ref ax, .int (nI d)]) (n := 8) (Nat.le_of_ble_eq_true rfl)
  rw [lg_entry_eq]
  generalize (lg_sl ([.ref ax, .int (nI d)]) ++ List.replicate (8 - (lg_sl ([.ref ax, .int (nI d)])).length) Slot.unset).toArray = ls at hl ⊢
  have hl : lv_has ls 8 [(0, .ref ax), (1, .int (nI d))] := hl
  have hS : va_S (zA [ax, ao, aq, ae, at_, aw]) s.heap s.heap [] := va_S.rf
  have hDD : zD (zA [ax, ao, aq, ae, at_, aw]) [ax, ao, aq, ae, at_, aw] := ⟨hnd, fun _ h => h⟩
  generalize hQe : MQ below _ _ _ _ _ _ = Q
  have htn := zSd_le hsd
  refine lv_aload_n hx hb dX5_noteWorthsBehind_0 rfl (lv_at hl 0 rfl) ?_
  refine va_get (D := (dC, dI)) (ci := 2) (v := .ref ae) (C := RX5) (T := TX5) (N := 9) hx hb hts hinX5 hown hK hP 0 rfl rfl 2 (by decide) (hts (.fieldLink RX5 22 "RoyalUrTable" "endings" "LRoyalUrTable$Endings;") (List.mem_of_getElem? (i := 1) rfl)) (fun _ h9 => h9) rfl dX5_noteWorthsBehind_1 ?_
  refine lv_bipush (v := 40) hx hb dX5_noteWorthsBehind_4 (by decide) ?_
  refine zrw_v (w1 := fun u : Nat × (Nat → Int32) => [(ae, .inr (0, [.ref at_, .int (nI u.1)])), (at_, .inl (cyI, 13500, .inl u.2))]) (al := [ae, at_]) (va_runV (As := [.int 40]) (rest := []) ⟨hx, hb, hml, hown, hts⟩ (c_X1_fillUpTo l dC dI cyI cyJ tb ae at_ wf kk 40 hkk (by omega) htb (z_nd hDD.1 [3, 4] (by decide) rfl)) (cwV 1 hts gX5_noteWorthsBehind_X1_fillUpTo rfl rfl rfl (by decide +kernel) ⟨(show 5 + 1 ≤ 20 by omega), (show 8 + (4 + 11) + 129 ≤ 600 by omega)⟩) (zPc_V (ci := 0) (q0 := 3) zB_X hP hK rfl rfl [3, 4] rfl (zX_at hX hS (zA_pl (al := [ax, ao, aq, ae, at_, aw]) (bl := [ae, at_]) [3, 4] rfl))) rfl rfl hl.1 rfl (lv_room (Nat.le_of_ble_eq_true rfl)) dX5_noteWorthsBehind_6 ⟨Nat.zero_le _, Nat.zero_le _⟩) hP hDD hS [3, 4] rfl (fun _ => rfl) (fun u_6 H locs hw_6 hP hS => ?_)
  have hP : va_P (dC, dI) vwCl [(ax, .inr (2, [.ref a0, .ref a1, .ref ae, .ref aw, .int (nI k), .int (nI tn), .int mk, .int wn, .int cnt])), (ao, .inr (1, [.long (lN own), .int lo])), (aq, .inr (1, [.long (lN oth), .int lq])), (ae, .inr (0, [.ref at_, .int (nI u_6.1)])), (at_, .inl (cyI, 13500, .inl u_6.2)), (aw, .inl (cyI, 15, .inl wb))] H := hP
  refine lv_aload_n hx hb dX5_noteWorthsBehind_9 rfl (lv_at hl 0 rfl) ?_
  refine lv_aload_n hx hb dX5_noteWorthsBehind_10 rfl (lv_at hl 0 rfl) ?_
  refine va_get (D := (dC, dI)) (ci := 2) (v := .int (nI tn)) (C := RX5) (T := TX5) (N := 9) hx hb hts hinX5 hown hK hP 0 rfl rfl 5 (by decide) (hts (.fieldLink RX5 59 "RoyalUrTable" "turn" "I") (List.mem_of_getElem? (i := 2) rfl)) (fun _ h9 => h9) rfl dX5_noteWorthsBehind_11 ?_
  refine zro_r (va_runV (As := [.int (nI tn)]) (rest := []) ⟨hx, hb, hml, hown, hts⟩ (c_X5_sideOf l dC dI cyI cyJ ax a0 a1 ae aw (nI k) (nI tn) mk wn cnt tn (by omega)) (cwV 1 hts gX5_noteWorthsBehind_X5_sideOf rfl rfl rfl (by decide +kernel) ⟨(show 0 + 1 ≤ 20 by omega), (show 8 + (2 + 11) + 0 ≤ 600 by omega)⟩) (zPc_V (ci := 2) (q0 := 0) zB_T hP hK rfl rfl [0] rfl (fun _ _ _ => trivial)) rfl rfl hl.1 rfl (lv_room (Nat.le_of_ble_eq_true rfl)) dX5_noteWorthsBehind_14 ⟨Nat.zero_le _, Nat.zero_le _⟩) hP hS (fun H locs hP hS => ?_)
  refine zz_r (y := ao) (zSd_o hsd) ?_
  refine va_get (D := (dC, dI)) (ci := 1) (v := .long (lN own)) (C := RX3) (T := TX3) (N := 2) hx hb hts hinX3 hown hK hP 1 rfl rfl 0 (by decide) (hts (.fieldLink RX5 70 "RoyalUrTable$Side" "layout" "J") (List.mem_of_getElem? (i := 3) rfl)) (fun _ h9 => h9) rfl dX5_noteWorthsBehind_17 ?_
  refine lv_lstore_n (lv' := [(2, .long (lN own)), (0, .ref ax), (1, .int (nI d))]) hx hb dX5_noteWorthsBehind_20 rfl hl (by decide) rfl (fun ls hl => ?_)
  refine lv_aload_n hx hb dX5_noteWorthsBehind_21 rfl (lv_at hl 1 rfl) ?_
  refine lv_iconst (v := 1) hx hb dX5_noteWorthsBehind_22 (by decide) ?_
  refine lv_aload_n hx hb dX5_noteWorthsBehind_23 rfl (lv_at hl 1 rfl) ?_
  refine va_get (D := (dC, dI)) (ci := 2) (v := .int (nI tn)) (C := RX5) (T := TX5) (N := 9) hx hb hts hinX5 hown hK hP 0 rfl rfl 5 (by decide) (hts (.fieldLink RX5 59 "RoyalUrTable" "turn" "I") (List.mem_of_getElem? (i := 2) rfl)) (fun _ h9 => h9) rfl dX5_noteWorthsBehind_24 ?_
  refine lv_isub hx hb dX5_noteWorthsBehind_27 ?_
  refine zz_i (y := nI (1 - tn)) (pk_sub (a := 1) (b := tn) (by omega)) ?_
  refine zro_r (va_runV (As := [.int (nI (1 - tn))]) (rest := []) ⟨hx, hb, hml, hown, hts⟩ (c_X5_sideOf l dC dI cyI cyJ ax a0 a1 ae aw (nI k) (nI tn) mk wn cnt (1 - tn) (by omega)) (cwV 1 hts gX5_noteWorthsBehind_X5_sideOf rfl rfl rfl (by decide +kernel) ⟨(show 0 + 1 ≤ 20 by omega), (show 8 + (2 + 11) + 0 ≤ 600 by omega)⟩) (zPc_V (ci := 2) (q0 := 0) zB_T hP hK rfl rfl [0] rfl (fun _ _ _ => trivial)) rfl rfl hl.1 rfl (lv_room (Nat.le_of_ble_eq_true rfl)) dX5_noteWorthsBehind_28 ⟨Nat.zero_le _, Nat.zero_le _⟩) hP hS (fun H locs hP hS => ?_)
  refine zz_r (y := aq) (zSd_q hsd) ?_
  refine va_get (D := (dC, dI)) (ci := 1) (v := .long (lN oth)) (C := RX3) (T := TX3) (N := 2) hx hb hts hinX3 hown hK hP 2 rfl rfl 0 (by decide) (hts (.fieldLink RX5 70 "RoyalUrTable$Side" "layout" "J") (List.mem_of_getElem? (i := 3) rfl)) (fun _ h9 => h9) rfl dX5_noteWorthsBehind_31 ?_
  refine lv_lstore (lv' := [(4, .long (lN oth)), (2, .long (lN own)), (0, .ref ax), (1, .int (nI d))]) hx hb dX5_noteWorthsBehind_34 hl (by decide) rfl (fun ls hl => ?_)
  refine lv_aload_n hx hb dX5_noteWorthsBehind_36 rfl (lv_at hl 2 rfl) ?_
  refine zro_i (va_runV (As := []) (rest := []) ⟨hx, hb, hml, hown, hts⟩ (c_X5_leadOfTurn l dC dI cyI cyJ ax a0 a1 ae aw ao aq mk wn cnt lo lq k tn own oth hsd hO hQ) (cwV 0 hts gX5_noteWorthsBehind_X5_leadOfTurn rfl rfl rfl (by decide +kernel) ⟨(show 2 + 1 ≤ 20 by omega), (show 8 + (1 + 11) + 45 ≤ 600 by omega)⟩) (zPc_V (ci := 2) (q0 := 0) zB_T hP hK rfl rfl [0, 1, 2] rfl (fun _ _ _ => trivial)) rfl rfl hl.1 rfl (lv_room (Nat.le_of_ble_eq_true rfl)) dX5_noteWorthsBehind_37 ⟨Nat.zero_le _, Nat.zero_le _⟩) hP hS (fun H locs hP hS => ?_)
  refine lv_istore (lv' := [(6, .int (zLd own oth)), (4, .long (lN oth)), (2, .long (lN own)), (0, .ref ax), (1, .int (nI d))]) hx hb dX5_noteWorthsBehind_40 hl (by decide) rfl (fun ls hl => ?_)
  refine lv_iconst (v := 0) hx hb dX5_noteWorthsBehind_42 (by decide) ?_
  refine lv_istore (lv' := [(7, .int 0), (6, .int (zLd own oth)), (4, .long (lN oth)), (2, .long (lN own)), (0, .ref ax), (1, .int (nI d))]) hx hb dX5_noteWorthsBehind_43 hl (by decide) rfl (fun ls hl => ?_)
  have lp : ∀ (n9 : Nat) (i : Nat) (g : Nat → Int32), i ≤ 15 → (∀ j, j < i → g j = zWB k d own oth mm j) → 15 - i < n9 → ∀ (H : Heap) (locs : List Loc), va_P (dC, dI) vwCl [(ax, .inr (2, [.ref a0, .ref a1, .ref ae, .ref aw, .int (nI k), .int (nI tn), .int mk, .int wn, .int cnt])), (ao, .inr (1, [.long (lN own), .int lo])), (aq, .inr (1, [.long (lN oth), .int lq])), (ae, .inr (0, [.ref at_, .int (nI u_6.1)])), (at_, .inl (cyI, 13500, .inl u_6.2)), (aw, .inl (cyI, 15, .inl g))] H → va_S (zA [ax, ao, aq, ae, at_, aw]) s.heap H locs → ∀ ls : Array Slot, lv_has ls 8 [(7, .int (nI i)), (0, .ref ax), (1, .int (nI d)), (2, .long (lN own)), (4, .long (lN oth)), (6, .int (zLd own oth))] → W p l e (headSpec wsX5_noteWorthsBehind ({ frames := 20, cells := 0, slots := 0, locals := 600 })).room s m ([.ref ax, .int (nI d)] : List Value).toArray below meth c H locs 0 0 Q (F0 m 45 ls []) := by
    intro n9
    induction n9 with
    | zero => intro i g hi2 hg hm9; exact absurd hm9 (Nat.not_lt_zero _)
    | succ n9 ih45 =>
      intro i g hi2 hg hm9 H locs hP hS ls hl
      refine lv_iload hx hb dX5_noteWorthsBehind_45 (lv_at hl 0 rfl) ?_
      refine lv_aload_n hx hb dX5_noteWorthsBehind_47 rfl (lv_at hl 1 rfl) ?_
      refine va_get (D := (dC, dI)) (ci := 2) (v := .ref aw) (C := RX5) (T := TX5) (N := 9) hx hb hts hinX5 hown hK hP 0 rfl rfl 3 (by decide) (hts (.fieldLink RX5 28 "RoyalUrTable" "worthsBehind" "[I") (List.mem_of_getElem? (i := 4) rfl)) (fun _ h9 => h9) rfl dX5_noteWorthsBehind_48 ?_
      refine va_alen (v := 15) hx hb hK hP 5 0 rfl rfl rfl dX5_noteWorthsBehind_51 ?_
      refine lv_icmp_ge (tgt := 103) hx hb dX5_noteWorthsBehind_52 (by decide) (fun c_52 => ?_) (fun c_52 => ?_)
      · skip
        have c_52 : 15 ≤ i := (nI_leI (a := 15) (b := i) (by omega) (by omega)).mp c_52
        subst hQe
        exact W.vret hx hb hr (fun t ht hW => ⟨⟨(u_6.1, u_6.2, g), rfl, ⟨hw_6.1, hw_6.2.2, fun j hj => hg j (by omega)⟩, zh ht hP⟩, hS.F ht⟩) hS.2.2 dX5_noteWorthsBehind_103
      · skip
        have c_52 : ¬ 15 ≤ i := fun h9 => c_52 ((nI_leI (a := 15) (b := i) (by omega) (by omega)).mpr h9)
        refine lv_aload_n hx hb dX5_noteWorthsBehind_55 rfl (lv_at hl 1 rfl) ?_
        refine va_get (D := (dC, dI)) (ci := 2) (v := .ref aw) (C := RX5) (T := TX5) (N := 9) hx hb hts hinX5 hown hK hP 0 rfl rfl 3 (by decide) (hts (.fieldLink RX5 28 "RoyalUrTable" "worthsBehind" "[I") (List.mem_of_getElem? (i := 4) rfl)) (fun _ h9 => h9) rfl dX5_noteWorthsBehind_56 ?_
        refine lv_iload hx hb dX5_noteWorthsBehind_59 (lv_at hl 0 rfl) ?_
        refine lv_lload_n hx hb dX5_noteWorthsBehind_61 rfl (lv_at hl 3 rfl) ?_
        refine lv_lload hx hb dX5_noteWorthsBehind_62 (lv_at hl 4 rfl) ?_
        refine lv_iload hx hb dX5_noteWorthsBehind_64 (lv_at hl 0 rfl) ?_
        refine lv_aload_n hx hb dX5_noteWorthsBehind_66 rfl (lv_at hl 1 rfl) ?_
        refine va_get (D := (dC, dI)) (ci := 2) (v := .int mk) (C := RX5) (T := TX5) (N := 9) hx hb hts hinX5 hown hK hP 0 rfl rfl 6 (by decide) (hts (.fieldLink RX5 46 "RoyalUrTable" "marksTold" "I") (List.mem_of_getElem? (i := 5) rfl)) (fun _ h9 => h9) rfl dX5_noteWorthsBehind_67 ?_
        refine zro_i (va_runS (As := [.long (lN own), .long (lN oth), .int (nI i), .int mk]) (rest := [.int (nI i), .ref aw]) ⟨hx, hb, hml, hown, hts⟩ (c_X2_canMove l own oth i mm mk hO.lt hQ.lt (by omega) hmm hmk) (va_cwS 4 hts gX5_noteWorthsBehind_X2_canMove rfl rfl rfl (by decide +kernel) ⟨(show 1 + 1 ≤ 20 by omega), (show 8 + (7 + 11) + 22 ≤ 600 by omega)⟩) zPu rfl rfl hl.1 rfl (lv_room (Nat.le_of_ble_eq_true rfl)) dX5_noteWorthsBehind_70 ⟨Nat.zero_le _, Nat.zero_le _⟩) hP hS (fun H locs hP hS => ?_)
        refine lv_if_eq (tgt := 95) hx hb dX5_noteWorthsBehind_73 (by decide) (fun c_73 => ?_) (fun c_73 => ?_)
        · skip
          have c_73 := bI_0.mp c_73
          refine lv_iconst (v := -1) hx hb dX5_noteWorthsBehind_95 (by decide) ?_
          refine zi_iast hx hb hK hP hDD hS 5 0 rfl rfl (j := i) rfl (by omega) (by decide) dX5_noteWorthsBehind_96 (fun H locs hP hS => ?_)
          have hP : va_P (dC, dI) vwCl [(ax, .inr (2, [.ref a0, .ref a1, .ref ae, .ref aw, .int (nI k), .int (nI tn), .int mk, .int wn, .int cnt])), (ao, .inr (1, [.long (lN own), .int lo])), (aq, .inr (1, [.long (lN oth), .int lq])), (ae, .inr (0, [.ref at_, .int (nI u_6.1)])), (at_, .inl (cyI, 13500, .inl u_6.2)), (aw, .inl (cyI, 15, .inl (upd g i (-1))))] H := hP
          refine lv_iinc (v := nI (i + 1)) (lv' := [(7, .int (nI (i + 1))), (0, .ref ax), (1, .int (nI d)), (2, .long (lN own)), (4, .long (lN oth)), (6, .int (zLd own oth))]) hx hb dX5_noteWorthsBehind_97 hl (k := 0) rfl (nI_1 i) (by decide) rfl (fun ls hl => ?_)
          refine lv_goto (tgt := 45) hx hb dX5_noteWorthsBehind_100 (by decide) ?_
          exact ih45 (i + 1) _ (by omega) (zWB_n hg c_73) (by omega) _ _ hP hS _ (lv_sub hl [0, 1, 2, 3, 4, 5] rfl)
        · skip
          have c_73 := bI_1.mp c_73
          refine lv_aload_n hx hb dX5_noteWorthsBehind_76 rfl (lv_at hl 1 rfl) ?_
          refine lv_lload_n hx hb dX5_noteWorthsBehind_77 rfl (lv_at hl 3 rfl) ?_
          refine lv_lload hx hb dX5_noteWorthsBehind_78 (lv_at hl 4 rfl) ?_
          refine lv_iload hx hb dX5_noteWorthsBehind_80 (lv_at hl 5 rfl) ?_
          refine lv_iload hx hb dX5_noteWorthsBehind_82 (lv_at hl 0 rfl) ?_
          refine lv_aload_n hx hb dX5_noteWorthsBehind_84 rfl (lv_at hl 1 rfl) ?_
          refine va_get (D := (dC, dI)) (ci := 2) (v := .int mk) (C := RX5) (T := TX5) (N := 9) hx hb hts hinX5 hown hK hP 0 rfl rfl 6 (by decide) (hts (.fieldLink RX5 46 "RoyalUrTable" "marksTold" "I") (List.mem_of_getElem? (i := 5) rfl)) (fun _ h9 => h9) rfl dX5_noteWorthsBehind_85 ?_
          refine zz_i (y := nI mm) (zmk_eq hmk (zcm_spec c_73).1) ?_
          refine lv_iload_n hx hb dX5_noteWorthsBehind_88 rfl (lv_at hl 2 rfl) ?_
          refine zro_i (va_runV (As := [.long (lN own), .long (lN oth), .int (zLd own oth), .int (nI i), .int (nI mm), .int (nI d)]) (rest := [.int (nI i), .ref aw]) ⟨hx, hb, hml, hown, hts⟩ (c_X5_worthBehindMove l dC dI cyI cyJ tb ax a0 a1 ae aw at_ (nI tn) mk wn cnt (nI u_6.1) u_6.2 k u_6.1 hk1 hw_6.2.2 hw_6.2.1 hw_6.1 d (by omega) own oth i mm hO hQ (by omega) (by omega) c_73) (cwV 6 hts gX5_noteWorthsBehind_X5_worthBehindMove rfl rfl rfl (by decide +kernel) ⟨(show (3 * d + 7) + 1 ≤ 20 by omega), (show 8 + (15 + 11) + (92 * d + 229) ≤ 600 by omega)⟩) (zPc_V (ci := 2) (q0 := 0) zB_X hP hK rfl rfl [0, 3, 4] rfl (zX_at hX hS zF_A)) rfl rfl hl.1 rfl (lv_room (Nat.le_of_ble_eq_true rfl)) dX5_noteWorthsBehind_89 ⟨Nat.zero_le _, Nat.zero_le _⟩) hP hS (fun H locs hP hS => ?_)
          refine lv_goto (tgt := 96) hx hb dX5_noteWorthsBehind_92 (by decide) ?_
          refine zi_iast hx hb hK hP hDD hS 5 0 rfl rfl (j := i) rfl (by omega) (by decide) dX5_noteWorthsBehind_96 (fun H locs hP hS => ?_)
          have hP : va_P (dC, dI) vwCl [(ax, .inr (2, [.ref a0, .ref a1, .ref ae, .ref aw, .int (nI k), .int (nI tn), .int mk, .int wn, .int cnt])), (ao, .inr (1, [.long (lN own), .int lo])), (aq, .inr (1, [.long (lN oth), .int lq])), (ae, .inr (0, [.ref at_, .int (nI u_6.1)])), (at_, .inl (cyI, 13500, .inl u_6.2)), (aw, .inl (cyI, 15, .inl (upd g i (nI (zBM (zV k d) own oth i mm)))))] H := hP
          refine lv_iinc (v := nI (i + 1)) (lv' := [(7, .int (nI (i + 1))), (0, .ref ax), (1, .int (nI d)), (2, .long (lN own)), (4, .long (lN oth)), (6, .int (zLd own oth))]) hx hb dX5_noteWorthsBehind_97 hl (k := 0) rfl (nI_1 i) (by decide) rfl (fun ls hl => ?_)
          refine lv_goto (tgt := 45) hx hb dX5_noteWorthsBehind_100 (by decide) ?_
          exact ih45 (i + 1) _ (by omega) (zWB_y hg c_73) (by omega) _ _ hP hS _ (lv_sub hl [0, 1, 2, 3, 4, 5] rfl)
  exact lp 16 0 wb (by omega) (fun j h => absurd h (Nat.not_lt_zero _)) (by omega) _ _ hP hS _ (lv_sub hl [0, 4, 5, 3, 2, 1] rfl)
end
section
/-! the class's own calls -/
theorem zS_w {A : Nat → Prop} {H0 H : Heap} {locs : List Loc} (h : va_S zF H0 H locs) : va_S A H0 H locs := ⟨h.1, fun q h1 _ => h.2.1 q h1 (fun z => z), fun l hl => (h.2.2 l hl).elim⟩
theorem zthx {s t : State} {H : Heap} {locs : List Loc} (hS : va_S zF s.heap H locs) (hz : H.size ≤ t.heap.size) (hk : ∀ q : Nat, q < H.size → t.heap[q]? = H[q]?) : va_F zF s t :=
  ⟨Nat.le_trans hS.1 hz, fun q h1 _ => (hk q (Nat.lt_of_lt_of_le h1 hS.1)).trans (hS.2.1 q h1 (fun z => z))⟩
section ZT
variable {p : Program} {l : Launch} {e : Env} {R : Room} {s : State} {m : MethodId} {args : Array Value} {below : List Frame} {meth : Method} {c : Code} {H : Heap} {locs : List Loc} {cells slots : Nat}
variable {pc : Nat} {ls : Array Slot} {rest st0 : List Value} {D : va_G} {cl : List vw_C} {ws : va_W} {av : Array Value} {Qc : Array Value → State → Outcome → State → Prop} {XC : String → State → State → Prop} {mc ms : Nat} {free : Addr → Prop}
/-- a call that says G, or throws an X out of this method too -/
theorem zth_v {G N : Prop} {X : String} {m1 s1 : Nat} (hr : vx_Run p l e R s m args below meth c H locs cells slots m1 s1 (F0 m pc ls st0) rest (va_Qv (fun (_ : Unit) => G) (fun _ _ => True) zF av) (vx_X (fun (_ : Unit) => N) (fun (E : String) _ _ => E = X) zF) zF) (hP : va_P D cl ws H) (hS : va_S zF s.heap H locs)
    (hout : ∀ x ∈ c.exceptionTable.toList, covers x pc = false) (hlocks : meth.locks = false) (hx : N → ∀ t : State, va_F zF s t → XC X s t) (hc : cells + m1 ≤ mc) (hs : slots + s1 ≤ ms)
    (kk : ∀ (H1 : Heap) (locs1 : List Loc), G → va_P D cl ws H1 → va_S zF s.heap H1 locs1 → W p l e R s m args below meth c H1 locs1 (cells + m1) (slots + s1) (vx_MQ below Qc XC args s mc ms free) (F0 m (pc + 3) ls rest)) :
    W p l e R s m args below meth c H locs cells slots (vx_MQ below Qc XC args s mc ms free) (F0 m pc ls st0) :=
  vx_callv hr hS (fun _ _ h => h.elim) (fun _ h => h.elim) (fun _ _ h => h.elim)
    (fun E ce q9 u t H1 locs1 ht hvm hN hE hz hk hS1 hce hcv hcl => by
      have hE : E = X := hE
      subst hE
      exact vx_out hout hlocks hce hcv hcl (fun t2 ht2 _ => hx hN t2 ⟨by rw [ht2]; exact hS1.1, fun q h1 h2 => by rw [ht2]; exact hS1.2.1 q h1 h2⟩) (fun z hz => (hS1.2.2 z hz).elim) hc hs)
    (fun u t H1 locs1 ht hvm hG hB hz hk hS1 => kk H1 locs1 hG (hP.kept (fun k q hq => hk q.1 (hP k q hq).lt (fun h => h))) hS1)
end ZT
theorem zrng {v : Int32} {n : Nat} (hn : n < 2 ^ 31) (h : 0 ≤ v ∧ v ≤ nI n) : ∃ j, j ≤ n ∧ v = nI j :=
  nI_of2 (M := nI n) (nI_toInt hn) (Int32.not_lt.mpr h.1) h.2
/-- v in 0 .. n -/
def zin (v : Int32) (n : Nat) : Prop := ∃ j, j ≤ n ∧ v = nI j
theorem zin_iff {v : Int32} {n : Nat} (hn : n < 2 ^ 31) : (0 ≤ v ∧ v ≤ nI n) ↔ zin v n := by
  constructor
  · exact zrng hn
  · rintro ⟨j, h1, rfl⟩
    exact ⟨(nI_leI (a := 0) (b := j) (by omega) (by omega)).mpr (by omega), (nI_leI (by omega) hn).mpr h1⟩
/-- v in 1 .. n -/
theorem zin1_iff {v : Int32} {n : Nat} (hn : n < 2 ^ 31) : (1 ≤ v ∧ v ≤ nI n) ↔ ∃ j, 1 ≤ j ∧ j ≤ n ∧ v = nI j := by
  constructor
  · intro h
    obtain ⟨j, h1, rfl⟩ := zrng hn ⟨by have := h.1; rw [Int32.le_iff_toInt_le] at *; have h9 : (1 : Int32).toInt = 1 := rfl; have h8 : (0 : Int32).toInt = 0 := rfl; omega, h.2⟩
    exact ⟨j, (nI_leI (a := 1) (b := j) (by omega) (by omega)).mp h.1, h1, rfl⟩
  · rintro ⟨j, h0, h1, rfl⟩
    exact ⟨(nI_leI (a := 1) (b := j) (by omega) (by omega)).mpr h0, (nI_leI (by omega) hn).mpr h1⟩
/-- places of an ending -/
def zEnd (v w : Int32) : Prop := ∃ a b : Nat, a ≤ 14 ∧ b ≤ 14 ∧ v = nI a ∧ w = nI b ∧ ¬ (a = b ∧ zshr a = true)
theorem zSd_e {tn a0 a1 ao aq x : Nat} (h : zSd tn a0 a1 ao aq) (hx : x ≤ 1) (e : x = tn) : (if x = 0 then a0 else a1) = ao := by
  subst e; exact zSd_o h
theorem zSd_n {tn a0 a1 ao aq x : Nat} (h : zSd tn a0 a1 ao aq) (hx : x ≤ 1) (e : ¬ x = tn) : (if x = 0 then a0 else a1) = aq := by
  have := zSd_le h
  rw [show x = 1 - tn by omega]; exact zSd_q h
set_option maxHeartbeats 4000000 in
set_option maxRecDepth 100000 in
theorem c_X5_refuseEnding (l : Launch) (hl0 : l.stackTraces = false) (v w9 : Int32) : vx_Met l yX5_refuseEnding wsX5_refuseEnding ({ frames := 7, cells := 3, slots := 18, locals := 112 }) (va_Pc [.int v, .int w9] (fun U => zY zF U U.heap)) (va_Qv (fun (_ : Unit) => zEnd v w9) (fun _ _ => True) zF) (vx_X (fun (_ : Unit) => ¬ zEnd v w9) (fun (E : String) _ _ => E = zIA) zF) 3 18 zF := by
  refine vx_ofW (cc := cX5_refuseEnding) (maxL := 2) (ret := none) (by decide) rfl ?_
  intro p e s m args below meth c s₁ B hml hnt hv
  obtain ⟨rfl, hX⟩ := hv
  have hx := B.exec
  have hb := B.bytes
  have hr := B.returns
  have hts := atoms_spec (ws := wsX5_refuseEnding) B.pre
  have hown : s.vm.findClass RX5 = some m.cls := findClass_of_methodNamed B.named
  have hlocks := B.notSynchronized
  have hl := lv_entry ([.int v, .int w9]) (n := 2) (Nat.le_of_ble_eq_true rfl)
  rw [lg_entry_eq]
  generalize (lg_sl ([.int v, .int w9]) ++ List.replicate (2 - (lg_sl ([.int v, .int w9])).length) Slot.unset).toArray = ls at hl ⊢
  have hl : lv_has ls 2 [(0, .int v), (1, .int w9)] := hl
  have hP : va_P zG0 [] [] s.heap := fun k q h => by simp at h
  have hS : va_S zF s.heap s.heap [] := va_S.rf
  have hl9 := hl.1.trans hml.symm
  have hY : zY zF s s.heap := (hX).narrow zF_A
  refine lv_iload_n hx hb dX5_refuseEnding_0 rfl (lv_at hl 0 rfl) ?_
  refine lv_iconst (v := 0) hx hb dX5_refuseEnding_1 (by decide) ?_
  refine lv_bipush (v := 14) hx hb dX5_refuseEnding_2 (by decide) ?_
  refine zth_v (m1 := 1) (s1 := 6) (vx_runS (As := [.int v, .int 0, .int 14]) (rest := []) ⟨hx, hb, hml, hown, hts⟩ (c_X5_refuseOutside l hl0 v 0 14) (va_cwS 3 hts gX5_refuseEnding_X5_refuseOutside rfl rfl rfl (by decide +kernel) ⟨Nat.le_of_ble_eq_true rfl, Nat.le_of_ble_eq_true rfl⟩) (zPx zB_Y (zY_at hY hS zF_A)) rfl rfl hl.1 rfl (lv_room (Nat.le_of_ble_eq_true rfl)) dX5_refuseEnding_4 ⟨Nat.le_of_ble_eq_true rfl, Nat.le_of_ble_eq_true rfl⟩) hP hS (fun x hx9 => (hnt x hx9).elim) hlocks (fun hN t ht => ⟨(), fun ⟨a, b, h1, h2, h3, h4, h5⟩ => hN ((zin_iff (n := 14) (by decide)).mpr ⟨a, h1, h3⟩), rfl, ht⟩) (Nat.le_of_ble_eq_true rfl) (Nat.le_of_ble_eq_true rfl) (fun H locs hG_4 hP hS => ?_)
  obtain ⟨a, ha, rfl⟩ := (zin_iff (n := 14) (by decide)).mp hG_4
  refine lv_iload_n hx hb dX5_refuseEnding_7 rfl (lv_at hl 1 rfl) ?_
  refine lv_iconst (v := 0) hx hb dX5_refuseEnding_8 (by decide) ?_
  refine lv_bipush (v := 14) hx hb dX5_refuseEnding_9 (by decide) ?_
  refine zth_v (m1 := 1) (s1 := 6) (vx_runS (As := [.int w9, .int 0, .int 14]) (rest := []) ⟨hx, hb, hml, hown, hts⟩ (c_X5_refuseOutside l hl0 w9 0 14) (va_cwS 3 hts gX5_refuseEnding_X5_refuseOutside rfl rfl rfl (by decide +kernel) ⟨Nat.le_of_ble_eq_true rfl, Nat.le_of_ble_eq_true rfl⟩) (zPx zB_Y (zY_at hY hS zF_A)) rfl rfl hl.1 rfl (lv_room (Nat.le_of_ble_eq_true rfl)) dX5_refuseEnding_11 ⟨Nat.le_of_ble_eq_true rfl, Nat.le_of_ble_eq_true rfl⟩) hP hS (fun x hx9 => (hnt x hx9).elim) hlocks (fun hN t ht => ⟨(), fun ⟨a, b, h1, h2, h3, h4, h5⟩ => hN ((zin_iff (n := 14) (by decide)).mpr ⟨b, h2, h4⟩), rfl, ht⟩) (Nat.le_of_ble_eq_true rfl) (Nat.le_of_ble_eq_true rfl) (fun H locs hG_11 hP hS => ?_)
  obtain ⟨b9, hb9, rfl⟩ := (zin_iff (n := 14) (by decide)).mp hG_11
  refine lv_iload_n hx hb dX5_refuseEnding_14 rfl (lv_at hl 0 rfl) ?_
  refine lv_iload_n hx hb dX5_refuseEnding_15 rfl (lv_at hl 1 rfl) ?_
  refine lv_icmp_ne (tgt := 34) hx hb dX5_refuseEnding_16 (by decide) (fun c_16 => ?_) (fun c_16 => ?_)
  · skip
    have c_16 : ¬ a = b9 := fun h9 => c_16 ((nI_eq (a := a) (b := b9) (by omega) (by omega)).mpr h9)
    refine vx_ret (mc := 3) (ms := 18) ?_
    refine W.widen (k := 3) (n := 18) (Nat.le_of_ble_eq_true rfl) (Nat.le_of_ble_eq_true rfl) ?_
    exact W.vret hx hb hr (fun t ht hW => ⟨⟨(), rfl, ⟨a, b9, ha, hb9, rfl, rfl, fun h => c_16 h.1⟩, trivial⟩, hS.F ht⟩) hS.2.2 dX5_refuseEnding_34
  · skip
    have c_16 : a = b9 := (nI_eq (a := a) (b := b9) (by omega) (by omega)).mp c_16
    refine lv_iload_n hx hb dX5_refuseEnding_19 rfl (lv_at hl 0 rfl) ?_
    refine zro_i (va_runS (As := [.int (nI a)]) (rest := []) ⟨hx, hb, hml, hown, hts⟩ (c_X4_isShared l a (by omega)) (va_cwS 1 hts gX5_refuseEnding_X4_isShared rfl rfl rfl (by decide +kernel) ⟨Nat.le_of_ble_eq_true rfl, Nat.le_of_ble_eq_true rfl⟩) zPu rfl rfl hl.1 rfl (lv_room (Nat.le_of_ble_eq_true rfl)) dX5_refuseEnding_20 ⟨Nat.le_of_ble_eq_true rfl, Nat.le_of_ble_eq_true rfl⟩) hP hS (fun H locs hP hS => ?_)
    refine lv_if_eq (tgt := 34) hx hb dX5_refuseEnding_23 (by decide) (fun c_23 => ?_) (fun c_23 => ?_)
    · skip
      have c_23 := bI_0.mp c_23
      refine vx_ret (mc := 3) (ms := 18) ?_
      refine W.widen (k := 3) (n := 18) (Nat.le_of_ble_eq_true rfl) (Nat.le_of_ble_eq_true rfl) ?_
      exact W.vret hx hb hr (fun t ht hW => ⟨⟨(), rfl, ⟨a, b9, ha, hb9, rfl, rfl, fun h => by rw [h.2] at c_23; cases c_23⟩, trivial⟩, hS.F ht⟩) hS.2.2 dX5_refuseEnding_34
    · skip
      have c_23 := bI_1.mp c_23
      exact vx_throw0 (cls := "java/lang/IllegalArgumentException") (names := ["java/lang/RuntimeException", "java/lang/Exception"]) (ik := 108) (ic := 110) (A := zF) hx hb hl0 hown (by decide +kernel) (by decide +kernel) (hts (.classLink RX5 108 "java/lang/IllegalArgumentException") (List.mem_of_getElem? (i := 1) rfl)) (hts (.initialized "java/lang/IllegalArgumentException") (List.mem_of_getElem? (i := 2) rfl)) (vx_hat (fun w h => hts w (List.mem_cons_of_mem _ (List.mem_append_right _ h))) (by decide +kernel) (vx_c (va_Nw.use rfl hY.2.2.1) (vx_c (va_Nw.use rfl hY.2.2.2.1) (vx_c (va_Nw.use rfl hY.2.2.2.2.1) (vx_c (va_Nw.use rfl hY.2.2.2.2.2.1) vx_n))))) (by decide +kernel) hY.1 hY.2.1 hS hl9 dX5_refuseEnding_26 dX5_refuseEnding_29 dX5_refuseEnding_30 dX5_refuseEnding_33 (fun x hx9 => (hnt x hx9).elim) (Nat.le_of_ble_eq_true rfl) (Nat.le_of_ble_eq_true rfl) (Nat.le_of_ble_eq_true rfl) (Nat.le_of_ble_eq_true rfl) hlocks (fun t hv hz hk => ⟨(), fun ⟨a9, b8, h1, h2, h3, h4, h5⟩ => h5 ⟨((nI_eq (by omega) (by omega)).mp h3).symm.trans (c_16.trans ((nI_eq (by omega) (by omega)).mp h4)), by rw [← (nI_eq (by omega) (by omega)).mp h3]; exact c_23⟩, rfl, zthx hS hz hk⟩) (fun z hz => (hS.2.2 z hz).elim) (Nat.le_of_ble_eq_true rfl) (Nat.le_of_ble_eq_true rfl)
end
section
/-- the first move, from place p on, among j places, ahead of which idx others are -/
def zMA (own oth mm : Nat) (idx : Int32) : Nat → Nat → Int32
  | _, 0 => -1
  | p, j + 1 => if zcm own oth p mm = true ∧ nI (zNum own oth mm p) = idx then nI p else zMA own oth mm idx (p + 1) j
theorem zMA_s (own oth mm : Nat) (idx : Int32) (p j : Nat) : zMA own oth mm idx p (j + 1) = if zcm own oth p mm = true ∧ nI (zNum own oth mm p) = idx then nI p else zMA own oth mm idx (p + 1) j := rfl
/-- the first place, from p on, of this rank -/
def zRk (wb : Nat → Int32) (rank : Int32) : Nat → Nat → Int32
  | _, 0 => -1
  | p, j + 1 => if ¬ wb p = -1 ∧ nI (zCB wb p (wb p) 15) = rank then nI p else zRk wb rank (p + 1) j
theorem zRk_s (wb : Nat → Int32) (rank : Int32) (p j : Nat) : zRk wb rank p (j + 1) = if ¬ wb p = -1 ∧ nI (zCB wb p (wb p) 15) = rank then nI p else zRk wb rank (p + 1) j := rfl
theorem zCB_congr {wa wb : Nat → Int32} (h : ∀ j, j < 15 → wa j = wb j) (pl : Nat) (w : Int32) : ∀ j, j ≤ 15 → zCB wa pl w j = zCB wb pl w j := by
  intro j
  induction j with
  | zero => intro _; rfl
  | succ j ih => intro hj; rw [zCB_s, zCB_s, ih (by omega), h j (by omega)]
theorem zRk_congr {wa wb : Nat → Int32} (h : ∀ j, j < 15 → wa j = wb j) (rank : Int32) : ∀ j p, p + j ≤ 15 → zRk wa rank p j = zRk wb rank p j := by
  intro j
  induction j with
  | zero => intro p _; rfl
  | succ j ih => intro p hp; rw [zRk_s, zRk_s, ih (p + 1) (by omega), h p (by omega), zCB_congr h _ _ 15 (by omega)]
theorem zisub {x : Nat} (h : x ≤ 1000000000) : (1000000000 : Int32) - nI x = nI (1000000000 - x) := pk_sub h
set_option maxHeartbeats 4000000 in
set_option maxRecDepth 100000 in
theorem c_X5_turn (l : Launch) (dC : Nat → ClassId) (dI : Nat → Nat → Nat) (cyI cyJ : ClassId) (ax a0 a1 ae aw : Nat) (pI tI mk wn cnt : Int32) : Met l yX5_turn wsX5_turn ({ frames := 0, cells := 0, slots := 0, locals := 0 }) (zPc [.ref ax] (dC, dI) vwCl [(cyI, .int), (cyJ, .long)] [(ax, .inr (2, [.ref a0, .ref a1, .ref ae, .ref aw, .int pI, .int tI, .int mk, .int wn, .int cnt]))] (fun _ => True)) (va_Qi (fun (r : Int32) (_ : Unit) => r = tI) (fun _ _ => True) zF) 0 0 zF := by
  refine Met.ofW (cc := cX5_turn) (maxL := 1) (ret := (some .int)) (by decide) rfl ?_
  intro p e s m args below meth c s₁ B hml hv
  obtain ⟨rfl, hP, hK, hX⟩ := hv
  have hx := B.exec
  have hb := B.bytes
  have hr := B.returns
  have hts := atoms_spec (ws := wsX5_turn) B.pre
  have hown : s.vm.findClass RX5 = some m.cls := findClass_of_methodNamed B.named
  have hlocks := B.notSynchronized
  have hinX5 : ∀ w ∈ wsX50, w ∈ wsX5_turn := by decide +kernel
  have hl := lv_entry ([.ref ax]) (n := 1) (Nat.le_of_ble_eq_true rfl)
  rw [lg_entry_eq]
  generalize (lg_sl ([.ref ax]) ++ List.replicate (1 - (lg_sl ([.ref ax])).length) Slot.unset).toArray = ls at hl ⊢
  have hl : lv_has ls 1 [(0, .ref ax)] := hl
  have hS : va_S zF s.heap s.heap [] := va_S.rf
  refine lv_aload_n hx hb dX5_turn_0 rfl (lv_at hl 0 rfl) ?_
  refine va_get (D := (dC, dI)) (ci := 2) (v := .int tI) (C := RX5) (T := TX5) (N := 9) hx hb hts hinX5 hown hK hP 0 rfl rfl 5 (by decide) (hts (.fieldLink RX5 59 "RoyalUrTable" "turn" "I") (List.mem_of_getElem? (i := 1) rfl)) (fun _ h9 => h9) rfl dX5_turn_1 ?_
  exact W.iret (v := tI) hx hb hr (fun t ht hW => ⟨⟨_, (), rfl, rfl, trivial⟩, hS.F ht⟩) hS.2.2 dX5_turn_4

set_option maxHeartbeats 4000000 in
set_option maxRecDepth 100000 in
theorem c_X5_marks (l : Launch) (dC : Nat → ClassId) (dI : Nat → Nat → Nat) (cyI cyJ : ClassId) (ax a0 a1 ae aw : Nat) (pI tI mk wn cnt : Int32) : Met l yX5_marks wsX5_marks ({ frames := 0, cells := 0, slots := 0, locals := 0 }) (zPc [.ref ax] (dC, dI) vwCl [(cyI, .int), (cyJ, .long)] [(ax, .inr (2, [.ref a0, .ref a1, .ref ae, .ref aw, .int pI, .int tI, .int mk, .int wn, .int cnt]))] (fun _ => True)) (va_Qi (fun (r : Int32) (_ : Unit) => r = mk) (fun _ _ => True) zF) 0 0 zF := by
  refine Met.ofW (cc := cX5_marks) (maxL := 1) (ret := (some .int)) (by decide) rfl ?_
  intro p e s m args below meth c s₁ B hml hv
  obtain ⟨rfl, hP, hK, hX⟩ := hv
  have hx := B.exec
  have hb := B.bytes
  have hr := B.returns
  have hts := atoms_spec (ws := wsX5_marks) B.pre
  have hown : s.vm.findClass RX5 = some m.cls := findClass_of_methodNamed B.named
  have hlocks := B.notSynchronized
  have hinX5 : ∀ w ∈ wsX50, w ∈ wsX5_marks := by decide +kernel
  have hl := lv_entry ([.ref ax]) (n := 1) (Nat.le_of_ble_eq_true rfl)
  rw [lg_entry_eq]
  generalize (lg_sl ([.ref ax]) ++ List.replicate (1 - (lg_sl ([.ref ax])).length) Slot.unset).toArray = ls at hl ⊢
  have hl : lv_has ls 1 [(0, .ref ax)] := hl
  have hS : va_S zF s.heap s.heap [] := va_S.rf
  refine lv_aload_n hx hb dX5_marks_0 rfl (lv_at hl 0 rfl) ?_
  refine va_get (D := (dC, dI)) (ci := 2) (v := .int mk) (C := RX5) (T := TX5) (N := 9) hx hb hts hinX5 hown hK hP 0 rfl rfl 6 (by decide) (hts (.fieldLink RX5 46 "RoyalUrTable" "marksTold" "I") (List.mem_of_getElem? (i := 1) rfl)) (fun _ h9 => h9) rfl dX5_marks_1 ?_
  exact W.iret (v := mk) hx hb hr (fun t ht hW => ⟨⟨_, (), rfl, rfl, trivial⟩, hS.F ht⟩) hS.2.2 dX5_marks_4

set_option maxHeartbeats 4000000 in
set_option maxRecDepth 100000 in
theorem c_X5_winner (l : Launch) (dC : Nat → ClassId) (dI : Nat → Nat → Nat) (cyI cyJ : ClassId) (ax a0 a1 ae aw : Nat) (pI tI mk wn cnt : Int32) : Met l yX5_winner wsX5_winner ({ frames := 0, cells := 0, slots := 0, locals := 0 }) (zPc [.ref ax] (dC, dI) vwCl [(cyI, .int), (cyJ, .long)] [(ax, .inr (2, [.ref a0, .ref a1, .ref ae, .ref aw, .int pI, .int tI, .int mk, .int wn, .int cnt]))] (fun _ => True)) (va_Qi (fun (r : Int32) (_ : Unit) => r = wn) (fun _ _ => True) zF) 0 0 zF := by
  refine Met.ofW (cc := cX5_winner) (maxL := 1) (ret := (some .int)) (by decide) rfl ?_
  intro p e s m args below meth c s₁ B hml hv
  obtain ⟨rfl, hP, hK, hX⟩ := hv
  have hx := B.exec
  have hb := B.bytes
  have hr := B.returns
  have hts := atoms_spec (ws := wsX5_winner) B.pre
  have hown : s.vm.findClass RX5 = some m.cls := findClass_of_methodNamed B.named
  have hlocks := B.notSynchronized
  have hinX5 : ∀ w ∈ wsX50, w ∈ wsX5_winner := by decide +kernel
  have hl := lv_entry ([.ref ax]) (n := 1) (Nat.le_of_ble_eq_true rfl)
  rw [lg_entry_eq]
  generalize (lg_sl ([.ref ax]) ++ List.replicate (1 - (lg_sl ([.ref ax])).length) Slot.unset).toArray = ls at hl ⊢
  have hl : lv_has ls 1 [(0, .ref ax)] := hl
  have hS : va_S zF s.heap s.heap [] := va_S.rf
  refine lv_aload_n hx hb dX5_winner_0 rfl (lv_at hl 0 rfl) ?_
  refine va_get (D := (dC, dI)) (ci := 2) (v := .int wn) (C := RX5) (T := TX5) (N := 9) hx hb hts hinX5 hown hK hP 0 rfl rfl 7 (by decide) (hts (.fieldLink RX5 42 "RoyalUrTable" "winner" "I") (List.mem_of_getElem? (i := 1) rfl)) (fun _ h9 => h9) rfl dX5_winner_1 ?_
  exact W.iret (v := wn) hx hb hr (fun t ht hW => ⟨⟨_, (), rfl, rfl, trivial⟩, hS.F ht⟩) hS.2.2 dX5_winner_4

set_option maxHeartbeats 4000000 in
set_option maxRecDepth 100000 in
theorem c_X5_throwsTold (l : Launch) (dC : Nat → ClassId) (dI : Nat → Nat → Nat) (cyI cyJ : ClassId) (ax a0 a1 ae aw : Nat) (pI tI mk wn cnt : Int32) : Met l yX5_throwsTold wsX5_throwsTold ({ frames := 0, cells := 0, slots := 0, locals := 0 }) (zPc [.ref ax] (dC, dI) vwCl [(cyI, .int), (cyJ, .long)] [(ax, .inr (2, [.ref a0, .ref a1, .ref ae, .ref aw, .int pI, .int tI, .int mk, .int wn, .int cnt]))] (fun _ => True)) (va_Qi (fun (r : Int32) (_ : Unit) => r = cnt) (fun _ _ => True) zF) 0 0 zF := by
  refine Met.ofW (cc := cX5_throwsTold) (maxL := 1) (ret := (some .int)) (by decide) rfl ?_
  intro p e s m args below meth c s₁ B hml hv
  obtain ⟨rfl, hP, hK, hX⟩ := hv
  have hx := B.exec
  have hb := B.bytes
  have hr := B.returns
  have hts := atoms_spec (ws := wsX5_throwsTold) B.pre
  have hown : s.vm.findClass RX5 = some m.cls := findClass_of_methodNamed B.named
  have hlocks := B.notSynchronized
  have hinX5 : ∀ w ∈ wsX50, w ∈ wsX5_throwsTold := by decide +kernel
  have hl := lv_entry ([.ref ax]) (n := 1) (Nat.le_of_ble_eq_true rfl)
  rw [lg_entry_eq]
  generalize (lg_sl ([.ref ax]) ++ List.replicate (1 - (lg_sl ([.ref ax])).length) Slot.unset).toArray = ls at hl ⊢
  have hl : lv_has ls 1 [(0, .ref ax)] := hl
  have hS : va_S zF s.heap s.heap [] := va_S.rf
  refine lv_aload_n hx hb dX5_throwsTold_0 rfl (lv_at hl 0 rfl) ?_
  refine va_get (D := (dC, dI)) (ci := 2) (v := .int cnt) (C := RX5) (T := TX5) (N := 9) hx hb hts hinX5 hown hK hP 0 rfl rfl 8 (by decide) (hts (.fieldLink RX5 52 "RoyalUrTable" "throwsTold" "I") (List.mem_of_getElem? (i := 1) rfl)) (fun _ h9 => h9) rfl dX5_throwsTold_1 ?_
  exact W.iret (v := cnt) hx hb hr (fun t ht hW => ⟨⟨_, (), rfl, rfl, trivial⟩, hS.F ht⟩) hS.2.2 dX5_throwsTold_4

set_option maxHeartbeats 4000000 in
set_option maxRecDepth 100000 in
theorem c_X5_moves (l : Launch) (dC : Nat → ClassId) (dI : Nat → Nat → Nat) (cyI cyJ : ClassId) (ax a0 a1 ae aw ao aq : Nat) (mk wn cnt lo lq : Int32) (k tn own oth : Nat) (hsd : zSd tn a0 a1 ao aq) (hO : zok k own) (hQ : zok k oth) (mm : Nat) (hmk : zmk mk mm) (hmm : mm ≤ 4) : Met l yX5_moves wsX5_moves ({ frames := 3, cells := 0, slots := 0, locals := 75 }) (zPc [.ref ax] (dC, dI) vwCl [(cyI, .int), (cyJ, .long)] [(ax, .inr (2, [.ref a0, .ref a1, .ref ae, .ref aw, .int (nI k), .int (nI tn), .int mk, .int wn, .int cnt])), (ao, .inr (1, [.long (lN own), .int lo])), (aq, .inr (1, [.long (lN oth), .int lq]))] (fun _ => True)) (va_Qi (fun (r : Int32) (_ : Unit) => r = nI (zNum own oth mm 15)) (fun _ _ => True) zF) 0 0 zF := by
  refine Met.ofW (cc := cX5_moves) (maxL := 1) (ret := (some .int)) (by decide) rfl ?_
  intro p e s m args below meth c s₁ B hml hv
  obtain ⟨rfl, hP, hK, hX⟩ := hv
  have hx := B.exec
  have hb := B.bytes
  have hr := B.returns
  have hts := atoms_spec (ws := wsX5_moves) B.pre
  have hown : s.vm.findClass RX5 = some m.cls := findClass_of_methodNamed B.named
  have hlocks := B.notSynchronized
  have hinX5 : ∀ w ∈ wsX50, w ∈ wsX5_moves := by decide +kernel
  have hl := lv_entry ([.ref ax]) (n := 1) (Nat.le_of_ble_eq_true rfl)
  rw [lg_entry_eq]
  generalize (lg_sl ([.ref ax]) ++ List.replicate (1 - (lg_sl ([.ref ax])).length) Slot.unset).toArray = ls at hl ⊢
  have hl : lv_has ls 1 [(0, .ref ax)] := hl
  have hS : va_S zF s.heap s.heap [] := va_S.rf
  refine lv_aload_n hx hb dX5_moves_0 rfl (lv_at hl 0 rfl) ?_
  refine lv_aload_n hx hb dX5_moves_1 rfl (lv_at hl 0 rfl) ?_
  refine va_get (D := (dC, dI)) (ci := 2) (v := .int mk) (C := RX5) (T := TX5) (N := 9) hx hb hts hinX5 hown hK hP 0 rfl rfl 6 (by decide) (hts (.fieldLink RX5 46 "RoyalUrTable" "marksTold" "I") (List.mem_of_getElem? (i := 1) rfl)) (fun _ h9 => h9) rfl dX5_moves_2 ?_
  refine zro_i (va_runV (As := [.int mk]) (rest := []) ⟨hx, hb, hml, hown, hts⟩ (c_X5_countMoves l dC dI cyI cyJ ax a0 a1 ae aw ao aq mk wn cnt lo lq k tn own oth hsd hO hQ mm mk hmk hmm) (cwV 1 hts gX5_moves_X5_countMoves rfl rfl rfl (by decide +kernel) ⟨Nat.le_of_ble_eq_true rfl, Nat.le_of_ble_eq_true rfl⟩) (zPc_V (ci := 2) (q0 := 0) zB_T hP hK rfl rfl [0, 1, 2] rfl (fun _ _ _ => trivial)) rfl rfl hl.1 rfl (lv_room (Nat.le_of_ble_eq_true rfl)) dX5_moves_5 ⟨Nat.zero_le _, Nat.zero_le _⟩) hP hS (fun H locs hP hS => ?_)
  exact W.iret (v := nI (zNum own oth mm 15)) hx hb hr (fun t ht hW => ⟨⟨_, (), rfl, rfl, trivial⟩, hS.F ht⟩) hS.2.2 dX5_moves_8

set_option maxHeartbeats 4000000 in
set_option maxRecDepth 100000 in
theorem c_X5_moveAt (l : Launch) (dC : Nat → ClassId) (dI : Nat → Nat → Nat) (cyI cyJ : ClassId) (ax a0 a1 ae aw ao aq : Nat) (mk wn cnt lo lq : Int32) (k tn own oth : Nat) (hsd : zSd tn a0 a1 ao aq) (hO : zok k own) (hQ : zok k oth) (mm : Nat) (idx : Int32) (hmk : zmk mk mm) (hmm : mm ≤ 4) : Met l yX5_moveAt wsX5_moveAt ({ frames := 3, cells := 0, slots := 0, locals := 69 }) (zPc [.ref ax, .int idx] (dC, dI) vwCl [(cyI, .int), (cyJ, .long)] [(ax, .inr (2, [.ref a0, .ref a1, .ref ae, .ref aw, .int (nI k), .int (nI tn), .int mk, .int wn, .int cnt])), (ao, .inr (1, [.long (lN own), .int lo])), (aq, .inr (1, [.long (lN oth), .int lq]))] (fun _ => True)) (va_Qi (fun (r : Int32) (_ : Unit) => r = zMA own oth mm idx 0 15) (fun _ _ => True) zF) 0 0 zF := by
  refine Met.ofW (cc := cX5_moveAt) (maxL := 4) (ret := (some .int)) (by decide) rfl ?_
  intro p e s m args below meth c s₁ B hml hv
  obtain ⟨rfl, hP, hK, hX⟩ := hv
  have hx := B.exec
  have hb := B.bytes
  have hr := B.returns
  have hts := atoms_spec (ws := wsX5_moveAt) B.pre
  have hown : s.vm.findClass RX5 = some m.cls := findClass_of_methodNamed B.named
  have hlocks := B.notSynchronized
  have hl := lv_entry ([.ref ax, .int idx]) (n := 4) (Nat.le_of_ble_eq_true rfl)
  rw [lg_entry_eq]
  generalize (lg_sl ([.ref ax, .int idx]) ++ List.replicate (4 - (lg_sl ([.ref ax, .int idx])).length) Slot.unset).toArray = ls at hl ⊢
  have hl : lv_has ls 4 [(0, .ref ax), (1, .int idx)] := hl
  have hS : va_S zF s.heap s.heap [] := va_S.rf
  generalize hQe : MQ below _ _ _ _ _ _ = Q
  refine lv_iconst (v := 0) hx hb dX5_moveAt_0 (by decide) ?_
  refine lv_istore_n (lv' := [(2, .int 0), (0, .ref ax), (1, .int idx)]) hx hb dX5_moveAt_1 rfl hl (by decide) rfl (fun ls hl => ?_)
  refine lv_iconst (v := 0) hx hb dX5_moveAt_2 (by decide) ?_
  refine lv_istore_n (lv' := [(3, .int 0), (2, .int 0), (0, .ref ax), (1, .int idx)]) hx hb dX5_moveAt_3 rfl hl (by decide) rfl (fun ls hl => ?_)
  have lp : ∀ (n9 : Nat) (i : Nat) (j : Nat) (cv : Nat), i + j = 15 → cv = zNum own oth mm i → zMA own oth mm idx 0 15 = zMA own oth mm idx i j → 15 - i < n9 → ∀ (H : Heap) (locs : List Loc), va_P (dC, dI) vwCl [(ax, .inr (2, [.ref a0, .ref a1, .ref ae, .ref aw, .int (nI k), .int (nI tn), .int mk, .int wn, .int cnt])), (ao, .inr (1, [.long (lN own), .int lo])), (aq, .inr (1, [.long (lN oth), .int lq]))] H → va_S zF s.heap H locs → ∀ ls : Array Slot, lv_has ls 4 [(3, .int (nI i)), (2, .int (nI cv)), (0, .ref ax), (1, .int idx)] → W p l e (headSpec wsX5_moveAt ({ frames := 3, cells := 0, slots := 0, locals := 69 })).room s m ([.ref ax, .int idx] : List Value).toArray below meth c H locs 0 0 Q (F0 m 4 ls []) := by
    intro n9
    induction n9 with
    | zero => intro i j cv hi2 hcv hf hm9; exact absurd hm9 (Nat.not_lt_zero _)
    | succ n9 ih4 =>
      intro i j cv hi2 hcv hf hm9 H locs hP hS ls hl
      refine lv_iload_n hx hb dX5_moveAt_4 rfl (lv_at hl 0 rfl) ?_
      refine lv_bipush (v := 14) hx hb dX5_moveAt_5 (by decide) ?_
      refine lv_icmp_gt (tgt := 34) hx hb dX5_moveAt_7 (by decide) (fun c_7 => ?_) (fun c_7 => ?_)
      · skip
        have c_7 : 14 < i := (nI_ltI (a := 14) (b := i) (by omega) (by omega)).mp c_7
        refine lv_iconst (v := -1) hx hb dX5_moveAt_34 (by decide) ?_
        subst hQe
        exact W.iret (v := -1) hx hb hr (fun t ht hW => ⟨⟨_, (), rfl, (by rw [hf, show j = 0 by omega]; rfl), trivial⟩, hS.F ht⟩) hS.2.2 dX5_moveAt_35
      · skip
        have c_7 : ¬ 14 < i := fun h9 => c_7 ((nI_ltI (a := 14) (b := i) (by omega) (by omega)).mpr h9)
        refine lv_aload_n hx hb dX5_moveAt_10 rfl (lv_at hl 2 rfl) ?_
        refine lv_iload_n hx hb dX5_moveAt_11 rfl (lv_at hl 0 rfl) ?_
        refine zro_i (va_runV (As := [.int (nI i)]) (rest := []) ⟨hx, hb, hml, hown, hts⟩ (c_X5_canMoveFrom l dC dI cyI cyJ ax a0 a1 ae aw ao aq mk wn cnt lo lq k tn own oth hsd hO hQ mm i hmk hmm (by omega)) (cwV 1 hts gX5_moveAt_X5_canMoveFrom rfl rfl rfl (by decide +kernel) ⟨Nat.le_of_ble_eq_true rfl, Nat.le_of_ble_eq_true rfl⟩) (zPc_V (ci := 2) (q0 := 0) zB_T hP hK rfl rfl [0, 1, 2] rfl (fun _ _ _ => trivial)) rfl rfl hl.1 rfl (lv_room (Nat.le_of_ble_eq_true rfl)) dX5_moveAt_12 ⟨Nat.zero_le _, Nat.zero_le _⟩) hP hS (fun H locs hP hS => ?_)
        refine lv_if_eq (tgt := 28) hx hb dX5_moveAt_15 (by decide) (fun c_15 => ?_) (fun c_15 => ?_)
        · skip
          have c_15 := bI_0.mp c_15
          refine lv_iinc (v := nI (i + 1)) (lv' := [(3, .int (nI (i + 1))), (2, .int (nI cv)), (0, .ref ax), (1, .int idx)]) hx hb dX5_moveAt_28 hl (k := 0) rfl (nI_1 i) (by decide) rfl (fun ls hl => ?_)
          refine lv_goto (tgt := 4) hx hb dX5_moveAt_31 (by decide) ?_
          exact ih4 (i + 1) (j - 1) _ (by omega) (by rw [zNum_s, if_neg (by rw [c_15]; decide), Nat.add_zero]; exact hcv) (by rw [hf]; obtain ⟨j9, rfl⟩ : ∃ j9, j = j9 + 1 := ⟨j - 1, by omega⟩; rw [zMA_s, if_neg (fun h => by rw [h.1] at c_15; cases c_15)]; rfl) (by omega) _ _ hP hS _ (lv_sub hl [0, 1, 2, 3] rfl)
        · skip
          have c_15 := bI_1.mp c_15
          refine lv_iload_n hx hb dX5_moveAt_18 rfl (lv_at hl 1 rfl) ?_
          refine lv_iload_n hx hb dX5_moveAt_19 rfl (lv_at hl 3 rfl) ?_
          refine lv_icmp_ne (tgt := 25) hx hb dX5_moveAt_20 (by decide) (fun c_20 => ?_) (fun c_20 => ?_)
          · skip
            refine lv_iinc (v := nI (cv + 1)) (lv' := [(2, .int (nI (cv + 1))), (3, .int (nI i)), (0, .ref ax), (1, .int idx)]) hx hb dX5_moveAt_25 hl (k := 1) rfl (nI_1 cv) (by decide) rfl (fun ls hl => ?_)
            refine lv_iinc (v := nI (i + 1)) (lv' := [(3, .int (nI (i + 1))), (2, .int (nI (cv + 1))), (0, .ref ax), (1, .int idx)]) hx hb dX5_moveAt_28 hl (k := 1) rfl (nI_1 i) (by decide) rfl (fun ls hl => ?_)
            refine lv_goto (tgt := 4) hx hb dX5_moveAt_31 (by decide) ?_
            exact ih4 (i + 1) (j - 1) _ (by omega) (by rw [zNum_s, if_pos c_15, hcv]) (by rw [hf]; obtain ⟨j9, rfl⟩ : ∃ j9, j = j9 + 1 := ⟨j - 1, by omega⟩; rw [zMA_s, if_neg (fun h => c_20 (by rw [hcv]; exact h.2))]; rfl) (by omega) _ _ hP hS _ (lv_sub hl [0, 1, 2, 3] rfl)
          · skip
            refine lv_iload_n hx hb dX5_moveAt_23 rfl (lv_at hl 0 rfl) ?_
            subst hQe
            exact W.iret (v := nI i) hx hb hr (fun t ht hW => ⟨⟨_, (), rfl, (by rw [hf]; obtain ⟨j9, rfl⟩ : ∃ j9, j = j9 + 1 := ⟨j - 1, by omega⟩; rw [zMA_s, if_pos ⟨c_15, by rw [← hcv]; exact c_20⟩]), trivial⟩, hS.F ht⟩) hS.2.2 dX5_moveAt_24
  exact lp 16 0 15 0 (by omega) rfl rfl (by omega) _ _ hP hS _ (lv_sub hl [0, 1, 2, 3] rfl)

set_option maxHeartbeats 4000000 in
set_option maxRecDepth 100000 in
theorem c_X5_setUp (l : Launch) (dC : Nat → ClassId) (dI : Nat → Nat → Nat) (cyI cyJ : ClassId) (ax a0 a1 ae aw ao aq tn9 : Nat) (pI tI mk wn cnt lo lq : Int32) (lx ly : Int64) (hsd : zSd tn9 a0 a1 ao aq) (j : Nat) (hj : j ≤ 4) (hnd : [ax, ao, aq].Nodup) : Met l yX5_setUp wsX5_setUp ({ frames := 1, cells := 0, slots := 0, locals := 20 }) (zPc [.ref ax, .int (nI j)] (dC, dI) vwCl [(cyI, .int), (cyJ, .long)] [(ax, .inr (2, [.ref a0, .ref a1, .ref ae, .ref aw, .int pI, .int tI, .int mk, .int wn, .int cnt])), (ao, .inr (1, [.long lx, .int lo])), (aq, .inr (1, [.long ly, .int lq]))] (fun _ => True)) (va_Qv (fun (_ : Unit) => True) (fun (u : Unit) t => va_P (dC, dI) vwCl ([(ax, .inr (2, [.ref a0, .ref a1, .ref ae, .ref aw, .int (nI j), .int 0, .int (-1), .int (-1), .int 0])), (ao, .inr (1, [.long (lN j), .int 0])), (aq, .inr (1, [.long (lN j), .int 0]))]) t.heap) (zA [ax, ao, aq])) 0 0 (zA [ax, ao, aq]) := by
  refine Met.ofW (cc := cX5_setUp) (maxL := 2) (ret := none) (by decide) rfl ?_
  intro p e s m args below meth c s₁ B hml hv
  obtain ⟨rfl, hP, hK, hX⟩ := hv
  have hx := B.exec
  have hb := B.bytes
  have hr := B.returns
  have hts := atoms_spec (ws := wsX5_setUp) B.pre
  have hown : s.vm.findClass RX5 = some m.cls := findClass_of_methodNamed B.named
  have hlocks := B.notSynchronized
  have hinX3 : ∀ w ∈ wsX30, w ∈ wsX5_setUp := by decide +kernel
  have hinX5 : ∀ w ∈ wsX50, w ∈ wsX5_setUp := by decide +kernel
  have hl := lv_entry ([.ref ax, .int (nI j)]) (n := 2) (Nat.le_of_ble_eq_true rfl)
  rw [lg_entry_eq]
  generalize (lg_sl ([.ref ax, .int (nI j)]) ++ List.replicate (2 - (lg_sl ([.ref ax, .int (nI j)])).length) Slot.unset).toArray = ls at hl ⊢
  have hl : lv_has ls 2 [(0, .ref ax), (1, .int (nI j))] := hl
  have hS : va_S (zA [ax, ao, aq]) s.heap s.heap [] := va_S.rf
  have hDD : zD (zA [ax, ao, aq]) [ax, ao, aq] := ⟨hnd, fun _ h => h⟩
  generalize hQe : MQ below _ _ _ _ _ _ = Q
  rcases hsd with ⟨h1, h2, h3⟩ | ⟨h1, h2, h3⟩
  · skip
    have hA : a0 = ao := h2.symm
    have hB9 : a1 = aq := h3.symm
    refine lv_aload_n hx hb dX5_setUp_0 rfl (lv_at hl 0 rfl) ?_
    refine lv_iload_n hx hb dX5_setUp_1 rfl (lv_at hl 1 rfl) ?_
    refine va_put (D := (dC, dI)) (ci := 2) (v := .int (nI j)) (ty := .int) (C := RX5) (T := TX5) (N := 9) hx hb hts hinX5 tyX5 tyX5_ok nmX5 hown hK hP (hDD.va rfl) hS 0 rfl rfl 4 (by decide) (hts (.fieldLink RX5 135 "RoyalUrTable" "piecesOfEach" "I") (List.mem_of_getElem? (i := 1) rfl)) (fun _ h9 => h9) rfl (by decide +kernel) rfl rfl (Nat.le_of_ble_eq_true rfl) dX5_setUp_2 (fun H locs hP hD9 hS => ?_)
    have hP : va_P (dC, dI) vwCl [(ax, .inr (2, [.ref a0, .ref a1, .ref ae, .ref aw, .int (nI j), .int tI, .int mk, .int wn, .int cnt])), (ao, .inr (1, [.long lx, .int lo])), (aq, .inr (1, [.long ly, .int lq]))] H := hP
    refine lv_aload_n hx hb dX5_setUp_5 rfl (lv_at hl 0 rfl) ?_
    refine va_get (D := (dC, dI)) (ci := 2) (v := .ref a0) (C := RX5) (T := TX5) (N := 9) hx hb hts hinX5 hown hK hP 0 rfl rfl 0 (by decide) (hts (.fieldLink RX5 10 "RoyalUrTable" "side0" "LRoyalUrTable$Side;") (List.mem_of_getElem? (i := 2) rfl)) (fun _ h9 => h9) rfl dX5_setUp_6 ?_
    refine zz_r (y := ao) hA ?_
    refine lv_iload_n hx hb dX5_setUp_9 rfl (lv_at hl 1 rfl) ?_
    refine zro_l (va_runS (As := [.int (nI j)]) (rest := [.ref ao]) ⟨hx, hb, hml, hown, hts⟩ (c_X2_allAtStart l j (by omega)) (va_cwS 1 hts gX5_setUp_X2_allAtStart rfl rfl rfl (by decide +kernel) ⟨Nat.le_of_ble_eq_true rfl, Nat.le_of_ble_eq_true rfl⟩) zPu rfl rfl hl.1 rfl (lv_room (Nat.le_of_ble_eq_true rfl)) dX5_setUp_10 ⟨Nat.zero_le _, Nat.zero_le _⟩) hP hS (fun H locs hP hS => ?_)
    refine va_put (D := (dC, dI)) (ci := 1) (v := .long (lN j)) (ty := .long) (C := RX3) (T := TX3) (N := 2) hx hb hts hinX3 tyX3 tyX3_ok nmX3 hown hK hP (hDD.va rfl) hS 1 rfl rfl 0 (by decide) (hts (.fieldLink RX5 70 "RoyalUrTable$Side" "layout" "J") (List.mem_of_getElem? (i := 3) rfl)) (fun _ h9 => h9) rfl (by decide +kernel) rfl rfl (Nat.le_of_ble_eq_true rfl) dX5_setUp_13 (fun H locs hP hD9 hS => ?_)
    have hP : va_P (dC, dI) vwCl [(ax, .inr (2, [.ref a0, .ref a1, .ref ae, .ref aw, .int (nI j), .int tI, .int mk, .int wn, .int cnt])), (ao, .inr (1, [.long (lN j), .int lo])), (aq, .inr (1, [.long ly, .int lq]))] H := hP
    refine lv_aload_n hx hb dX5_setUp_16 rfl (lv_at hl 0 rfl) ?_
    refine va_get (D := (dC, dI)) (ci := 2) (v := .ref a1) (C := RX5) (T := TX5) (N := 9) hx hb hts hinX5 hown hK hP 0 rfl rfl 1 (by decide) (hts (.fieldLink RX5 16 "RoyalUrTable" "side1" "LRoyalUrTable$Side;") (List.mem_of_getElem? (i := 4) rfl)) (fun _ h9 => h9) rfl dX5_setUp_17 ?_
    refine zz_r (y := aq) hB9 ?_
    refine lv_iload_n hx hb dX5_setUp_20 rfl (lv_at hl 1 rfl) ?_
    refine zro_l (va_runS (As := [.int (nI j)]) (rest := [.ref aq]) ⟨hx, hb, hml, hown, hts⟩ (c_X2_allAtStart l j (by omega)) (va_cwS 1 hts gX5_setUp_X2_allAtStart rfl rfl rfl (by decide +kernel) ⟨Nat.le_of_ble_eq_true rfl, Nat.le_of_ble_eq_true rfl⟩) zPu rfl rfl hl.1 rfl (lv_room (Nat.le_of_ble_eq_true rfl)) dX5_setUp_21 ⟨Nat.zero_le _, Nat.zero_le _⟩) hP hS (fun H locs hP hS => ?_)
    refine va_put (D := (dC, dI)) (ci := 1) (v := .long (lN j)) (ty := .long) (C := RX3) (T := TX3) (N := 2) hx hb hts hinX3 tyX3 tyX3_ok nmX3 hown hK hP (hDD.va rfl) hS 2 rfl rfl 0 (by decide) (hts (.fieldLink RX5 70 "RoyalUrTable$Side" "layout" "J") (List.mem_of_getElem? (i := 3) rfl)) (fun _ h9 => h9) rfl (by decide +kernel) rfl rfl (Nat.le_of_ble_eq_true rfl) dX5_setUp_24 (fun H locs hP hD9 hS => ?_)
    have hP : va_P (dC, dI) vwCl [(ax, .inr (2, [.ref a0, .ref a1, .ref ae, .ref aw, .int (nI j), .int tI, .int mk, .int wn, .int cnt])), (ao, .inr (1, [.long (lN j), .int lo])), (aq, .inr (1, [.long (lN j), .int lq]))] H := hP
    refine lv_aload_n hx hb dX5_setUp_27 rfl (lv_at hl 0 rfl) ?_
    refine va_get (D := (dC, dI)) (ci := 2) (v := .ref a0) (C := RX5) (T := TX5) (N := 9) hx hb hts hinX5 hown hK hP 0 rfl rfl 0 (by decide) (hts (.fieldLink RX5 10 "RoyalUrTable" "side0" "LRoyalUrTable$Side;") (List.mem_of_getElem? (i := 2) rfl)) (fun _ h9 => h9) rfl dX5_setUp_28 ?_
    refine zz_r (y := ao) hA ?_
    refine lv_iconst (v := 0) hx hb dX5_setUp_31 (by decide) ?_
    refine va_put (D := (dC, dI)) (ci := 1) (v := .int 0) (ty := .int) (C := RX3) (T := TX3) (N := 2) hx hb hts hinX3 tyX3 tyX3_ok nmX3 hown hK hP (hDD.va rfl) hS 1 rfl rfl 1 (by decide) (hts (.fieldLink RX5 84 "RoyalUrTable$Side" "lost" "I") (List.mem_of_getElem? (i := 5) rfl)) (fun _ h9 => h9) rfl (by decide +kernel) rfl rfl (Nat.le_of_ble_eq_true rfl) dX5_setUp_32 (fun H locs hP hD9 hS => ?_)
    have hP : va_P (dC, dI) vwCl [(ax, .inr (2, [.ref a0, .ref a1, .ref ae, .ref aw, .int (nI j), .int tI, .int mk, .int wn, .int cnt])), (ao, .inr (1, [.long (lN j), .int 0])), (aq, .inr (1, [.long (lN j), .int lq]))] H := hP
    refine lv_aload_n hx hb dX5_setUp_35 rfl (lv_at hl 0 rfl) ?_
    refine va_get (D := (dC, dI)) (ci := 2) (v := .ref a1) (C := RX5) (T := TX5) (N := 9) hx hb hts hinX5 hown hK hP 0 rfl rfl 1 (by decide) (hts (.fieldLink RX5 16 "RoyalUrTable" "side1" "LRoyalUrTable$Side;") (List.mem_of_getElem? (i := 4) rfl)) (fun _ h9 => h9) rfl dX5_setUp_36 ?_
    refine zz_r (y := aq) hB9 ?_
    refine lv_iconst (v := 0) hx hb dX5_setUp_39 (by decide) ?_
    refine va_put (D := (dC, dI)) (ci := 1) (v := .int 0) (ty := .int) (C := RX3) (T := TX3) (N := 2) hx hb hts hinX3 tyX3 tyX3_ok nmX3 hown hK hP (hDD.va rfl) hS 2 rfl rfl 1 (by decide) (hts (.fieldLink RX5 84 "RoyalUrTable$Side" "lost" "I") (List.mem_of_getElem? (i := 5) rfl)) (fun _ h9 => h9) rfl (by decide +kernel) rfl rfl (Nat.le_of_ble_eq_true rfl) dX5_setUp_40 (fun H locs hP hD9 hS => ?_)
    have hP : va_P (dC, dI) vwCl [(ax, .inr (2, [.ref a0, .ref a1, .ref ae, .ref aw, .int (nI j), .int tI, .int mk, .int wn, .int cnt])), (ao, .inr (1, [.long (lN j), .int 0])), (aq, .inr (1, [.long (lN j), .int 0]))] H := hP
    refine lv_aload_n hx hb dX5_setUp_43 rfl (lv_at hl 0 rfl) ?_
    refine lv_iconst (v := 0) hx hb dX5_setUp_44 (by decide) ?_
    refine va_put (D := (dC, dI)) (ci := 2) (v := .int 0) (ty := .int) (C := RX5) (T := TX5) (N := 9) hx hb hts hinX5 tyX5 tyX5_ok nmX5 hown hK hP (hDD.va rfl) hS 0 rfl rfl 5 (by decide) (hts (.fieldLink RX5 59 "RoyalUrTable" "turn" "I") (List.mem_of_getElem? (i := 6) rfl)) (fun _ h9 => h9) rfl (by decide +kernel) rfl rfl (Nat.le_of_ble_eq_true rfl) dX5_setUp_45 (fun H locs hP hD9 hS => ?_)
    have hP : va_P (dC, dI) vwCl [(ax, .inr (2, [.ref a0, .ref a1, .ref ae, .ref aw, .int (nI j), .int 0, .int mk, .int wn, .int cnt])), (ao, .inr (1, [.long (lN j), .int 0])), (aq, .inr (1, [.long (lN j), .int 0]))] H := hP
    refine lv_aload_n hx hb dX5_setUp_48 rfl (lv_at hl 0 rfl) ?_
    refine lv_iconst (v := -1) hx hb dX5_setUp_49 (by decide) ?_
    refine va_put (D := (dC, dI)) (ci := 2) (v := .int (-1)) (ty := .int) (C := RX5) (T := TX5) (N := 9) hx hb hts hinX5 tyX5 tyX5_ok nmX5 hown hK hP (hDD.va rfl) hS 0 rfl rfl 6 (by decide) (hts (.fieldLink RX5 46 "RoyalUrTable" "marksTold" "I") (List.mem_of_getElem? (i := 7) rfl)) (fun _ h9 => h9) rfl (by decide +kernel) rfl rfl (Nat.le_of_ble_eq_true rfl) dX5_setUp_50 (fun H locs hP hD9 hS => ?_)
    have hP : va_P (dC, dI) vwCl [(ax, .inr (2, [.ref a0, .ref a1, .ref ae, .ref aw, .int (nI j), .int 0, .int (-1), .int wn, .int cnt])), (ao, .inr (1, [.long (lN j), .int 0])), (aq, .inr (1, [.long (lN j), .int 0]))] H := hP
    refine lv_aload_n hx hb dX5_setUp_53 rfl (lv_at hl 0 rfl) ?_
    refine lv_iconst (v := -1) hx hb dX5_setUp_54 (by decide) ?_
    refine va_put (D := (dC, dI)) (ci := 2) (v := .int (-1)) (ty := .int) (C := RX5) (T := TX5) (N := 9) hx hb hts hinX5 tyX5 tyX5_ok nmX5 hown hK hP (hDD.va rfl) hS 0 rfl rfl 7 (by decide) (hts (.fieldLink RX5 42 "RoyalUrTable" "winner" "I") (List.mem_of_getElem? (i := 8) rfl)) (fun _ h9 => h9) rfl (by decide +kernel) rfl rfl (Nat.le_of_ble_eq_true rfl) dX5_setUp_55 (fun H locs hP hD9 hS => ?_)
    have hP : va_P (dC, dI) vwCl [(ax, .inr (2, [.ref a0, .ref a1, .ref ae, .ref aw, .int (nI j), .int 0, .int (-1), .int (-1), .int cnt])), (ao, .inr (1, [.long (lN j), .int 0])), (aq, .inr (1, [.long (lN j), .int 0]))] H := hP
    refine lv_aload_n hx hb dX5_setUp_58 rfl (lv_at hl 0 rfl) ?_
    refine lv_iconst (v := 0) hx hb dX5_setUp_59 (by decide) ?_
    refine va_put (D := (dC, dI)) (ci := 2) (v := .int 0) (ty := .int) (C := RX5) (T := TX5) (N := 9) hx hb hts hinX5 tyX5 tyX5_ok nmX5 hown hK hP (hDD.va rfl) hS 0 rfl rfl 8 (by decide) (hts (.fieldLink RX5 52 "RoyalUrTable" "throwsTold" "I") (List.mem_of_getElem? (i := 9) rfl)) (fun _ h9 => h9) rfl (by decide +kernel) rfl rfl (Nat.le_of_ble_eq_true rfl) dX5_setUp_60 (fun H locs hP hD9 hS => ?_)
    have hP : va_P (dC, dI) vwCl [(ax, .inr (2, [.ref a0, .ref a1, .ref ae, .ref aw, .int (nI j), .int 0, .int (-1), .int (-1), .int 0])), (ao, .inr (1, [.long (lN j), .int 0])), (aq, .inr (1, [.long (lN j), .int 0]))] H := hP
    subst hQe
    exact W.vret hx hb hr (fun t ht hW => ⟨⟨(), rfl, trivial, zh ht hP⟩, hS.F ht⟩) hS.2.2 dX5_setUp_63
  · skip
    have hA : a0 = aq := h3.symm
    have hB9 : a1 = ao := h2.symm
    refine lv_aload_n hx hb dX5_setUp_0 rfl (lv_at hl 0 rfl) ?_
    refine lv_iload_n hx hb dX5_setUp_1 rfl (lv_at hl 1 rfl) ?_
    refine va_put (D := (dC, dI)) (ci := 2) (v := .int (nI j)) (ty := .int) (C := RX5) (T := TX5) (N := 9) hx hb hts hinX5 tyX5 tyX5_ok nmX5 hown hK hP (hDD.va rfl) hS 0 rfl rfl 4 (by decide) (hts (.fieldLink RX5 135 "RoyalUrTable" "piecesOfEach" "I") (List.mem_of_getElem? (i := 1) rfl)) (fun _ h9 => h9) rfl (by decide +kernel) rfl rfl (Nat.le_of_ble_eq_true rfl) dX5_setUp_2 (fun H locs hP hD9 hS => ?_)
    have hP : va_P (dC, dI) vwCl [(ax, .inr (2, [.ref a0, .ref a1, .ref ae, .ref aw, .int (nI j), .int tI, .int mk, .int wn, .int cnt])), (ao, .inr (1, [.long lx, .int lo])), (aq, .inr (1, [.long ly, .int lq]))] H := hP
    refine lv_aload_n hx hb dX5_setUp_5 rfl (lv_at hl 0 rfl) ?_
    refine va_get (D := (dC, dI)) (ci := 2) (v := .ref a0) (C := RX5) (T := TX5) (N := 9) hx hb hts hinX5 hown hK hP 0 rfl rfl 0 (by decide) (hts (.fieldLink RX5 10 "RoyalUrTable" "side0" "LRoyalUrTable$Side;") (List.mem_of_getElem? (i := 2) rfl)) (fun _ h9 => h9) rfl dX5_setUp_6 ?_
    refine zz_r (y := aq) hA ?_
    refine lv_iload_n hx hb dX5_setUp_9 rfl (lv_at hl 1 rfl) ?_
    refine zro_l (va_runS (As := [.int (nI j)]) (rest := [.ref aq]) ⟨hx, hb, hml, hown, hts⟩ (c_X2_allAtStart l j (by omega)) (va_cwS 1 hts gX5_setUp_X2_allAtStart rfl rfl rfl (by decide +kernel) ⟨Nat.le_of_ble_eq_true rfl, Nat.le_of_ble_eq_true rfl⟩) zPu rfl rfl hl.1 rfl (lv_room (Nat.le_of_ble_eq_true rfl)) dX5_setUp_10 ⟨Nat.zero_le _, Nat.zero_le _⟩) hP hS (fun H locs hP hS => ?_)
    refine va_put (D := (dC, dI)) (ci := 1) (v := .long (lN j)) (ty := .long) (C := RX3) (T := TX3) (N := 2) hx hb hts hinX3 tyX3 tyX3_ok nmX3 hown hK hP (hDD.va rfl) hS 2 rfl rfl 0 (by decide) (hts (.fieldLink RX5 70 "RoyalUrTable$Side" "layout" "J") (List.mem_of_getElem? (i := 3) rfl)) (fun _ h9 => h9) rfl (by decide +kernel) rfl rfl (Nat.le_of_ble_eq_true rfl) dX5_setUp_13 (fun H locs hP hD9 hS => ?_)
    have hP : va_P (dC, dI) vwCl [(ax, .inr (2, [.ref a0, .ref a1, .ref ae, .ref aw, .int (nI j), .int tI, .int mk, .int wn, .int cnt])), (ao, .inr (1, [.long lx, .int lo])), (aq, .inr (1, [.long (lN j), .int lq]))] H := hP
    refine lv_aload_n hx hb dX5_setUp_16 rfl (lv_at hl 0 rfl) ?_
    refine va_get (D := (dC, dI)) (ci := 2) (v := .ref a1) (C := RX5) (T := TX5) (N := 9) hx hb hts hinX5 hown hK hP 0 rfl rfl 1 (by decide) (hts (.fieldLink RX5 16 "RoyalUrTable" "side1" "LRoyalUrTable$Side;") (List.mem_of_getElem? (i := 4) rfl)) (fun _ h9 => h9) rfl dX5_setUp_17 ?_
    refine zz_r (y := ao) hB9 ?_
    refine lv_iload_n hx hb dX5_setUp_20 rfl (lv_at hl 1 rfl) ?_
    refine zro_l (va_runS (As := [.int (nI j)]) (rest := [.ref ao]) ⟨hx, hb, hml, hown, hts⟩ (c_X2_allAtStart l j (by omega)) (va_cwS 1 hts gX5_setUp_X2_allAtStart rfl rfl rfl (by decide +kernel) ⟨Nat.le_of_ble_eq_true rfl, Nat.le_of_ble_eq_true rfl⟩) zPu rfl rfl hl.1 rfl (lv_room (Nat.le_of_ble_eq_true rfl)) dX5_setUp_21 ⟨Nat.zero_le _, Nat.zero_le _⟩) hP hS (fun H locs hP hS => ?_)
    refine va_put (D := (dC, dI)) (ci := 1) (v := .long (lN j)) (ty := .long) (C := RX3) (T := TX3) (N := 2) hx hb hts hinX3 tyX3 tyX3_ok nmX3 hown hK hP (hDD.va rfl) hS 1 rfl rfl 0 (by decide) (hts (.fieldLink RX5 70 "RoyalUrTable$Side" "layout" "J") (List.mem_of_getElem? (i := 3) rfl)) (fun _ h9 => h9) rfl (by decide +kernel) rfl rfl (Nat.le_of_ble_eq_true rfl) dX5_setUp_24 (fun H locs hP hD9 hS => ?_)
    have hP : va_P (dC, dI) vwCl [(ax, .inr (2, [.ref a0, .ref a1, .ref ae, .ref aw, .int (nI j), .int tI, .int mk, .int wn, .int cnt])), (ao, .inr (1, [.long (lN j), .int lo])), (aq, .inr (1, [.long (lN j), .int lq]))] H := hP
    refine lv_aload_n hx hb dX5_setUp_27 rfl (lv_at hl 0 rfl) ?_
    refine va_get (D := (dC, dI)) (ci := 2) (v := .ref a0) (C := RX5) (T := TX5) (N := 9) hx hb hts hinX5 hown hK hP 0 rfl rfl 0 (by decide) (hts (.fieldLink RX5 10 "RoyalUrTable" "side0" "LRoyalUrTable$Side;") (List.mem_of_getElem? (i := 2) rfl)) (fun _ h9 => h9) rfl dX5_setUp_28 ?_
    refine zz_r (y := aq) hA ?_
    refine lv_iconst (v := 0) hx hb dX5_setUp_31 (by decide) ?_
    refine va_put (D := (dC, dI)) (ci := 1) (v := .int 0) (ty := .int) (C := RX3) (T := TX3) (N := 2) hx hb hts hinX3 tyX3 tyX3_ok nmX3 hown hK hP (hDD.va rfl) hS 2 rfl rfl 1 (by decide) (hts (.fieldLink RX5 84 "RoyalUrTable$Side" "lost" "I") (List.mem_of_getElem? (i := 5) rfl)) (fun _ h9 => h9) rfl (by decide +kernel) rfl rfl (Nat.le_of_ble_eq_true rfl) dX5_setUp_32 (fun H locs hP hD9 hS => ?_)
    have hP : va_P (dC, dI) vwCl [(ax, .inr (2, [.ref a0, .ref a1, .ref ae, .ref aw, .int (nI j), .int tI, .int mk, .int wn, .int cnt])), (ao, .inr (1, [.long (lN j), .int lo])), (aq, .inr (1, [.long (lN j), .int 0]))] H := hP
    refine lv_aload_n hx hb dX5_setUp_35 rfl (lv_at hl 0 rfl) ?_
    refine va_get (D := (dC, dI)) (ci := 2) (v := .ref a1) (C := RX5) (T := TX5) (N := 9) hx hb hts hinX5 hown hK hP 0 rfl rfl 1 (by decide) (hts (.fieldLink RX5 16 "RoyalUrTable" "side1" "LRoyalUrTable$Side;") (List.mem_of_getElem? (i := 4) rfl)) (fun _ h9 => h9) rfl dX5_setUp_36 ?_
    refine zz_r (y := ao) hB9 ?_
    refine lv_iconst (v := 0) hx hb dX5_setUp_39 (by decide) ?_
    refine va_put (D := (dC, dI)) (ci := 1) (v := .int 0) (ty := .int) (C := RX3) (T := TX3) (N := 2) hx hb hts hinX3 tyX3 tyX3_ok nmX3 hown hK hP (hDD.va rfl) hS 1 rfl rfl 1 (by decide) (hts (.fieldLink RX5 84 "RoyalUrTable$Side" "lost" "I") (List.mem_of_getElem? (i := 5) rfl)) (fun _ h9 => h9) rfl (by decide +kernel) rfl rfl (Nat.le_of_ble_eq_true rfl) dX5_setUp_40 (fun H locs hP hD9 hS => ?_)
    have hP : va_P (dC, dI) vwCl [(ax, .inr (2, [.ref a0, .ref a1, .ref ae, .ref aw, .int (nI j), .int tI, .int mk, .int wn, .int cnt])), (ao, .inr (1, [.long (lN j), .int 0])), (aq, .inr (1, [.long (lN j), .int 0]))] H := hP
    refine lv_aload_n hx hb dX5_setUp_43 rfl (lv_at hl 0 rfl) ?_
    refine lv_iconst (v := 0) hx hb dX5_setUp_44 (by decide) ?_
    refine va_put (D := (dC, dI)) (ci := 2) (v := .int 0) (ty := .int) (C := RX5) (T := TX5) (N := 9) hx hb hts hinX5 tyX5 tyX5_ok nmX5 hown hK hP (hDD.va rfl) hS 0 rfl rfl 5 (by decide) (hts (.fieldLink RX5 59 "RoyalUrTable" "turn" "I") (List.mem_of_getElem? (i := 6) rfl)) (fun _ h9 => h9) rfl (by decide +kernel) rfl rfl (Nat.le_of_ble_eq_true rfl) dX5_setUp_45 (fun H locs hP hD9 hS => ?_)
    have hP : va_P (dC, dI) vwCl [(ax, .inr (2, [.ref a0, .ref a1, .ref ae, .ref aw, .int (nI j), .int 0, .int mk, .int wn, .int cnt])), (ao, .inr (1, [.long (lN j), .int 0])), (aq, .inr (1, [.long (lN j), .int 0]))] H := hP
    refine lv_aload_n hx hb dX5_setUp_48 rfl (lv_at hl 0 rfl) ?_
    refine lv_iconst (v := -1) hx hb dX5_setUp_49 (by decide) ?_
    refine va_put (D := (dC, dI)) (ci := 2) (v := .int (-1)) (ty := .int) (C := RX5) (T := TX5) (N := 9) hx hb hts hinX5 tyX5 tyX5_ok nmX5 hown hK hP (hDD.va rfl) hS 0 rfl rfl 6 (by decide) (hts (.fieldLink RX5 46 "RoyalUrTable" "marksTold" "I") (List.mem_of_getElem? (i := 7) rfl)) (fun _ h9 => h9) rfl (by decide +kernel) rfl rfl (Nat.le_of_ble_eq_true rfl) dX5_setUp_50 (fun H locs hP hD9 hS => ?_)
    have hP : va_P (dC, dI) vwCl [(ax, .inr (2, [.ref a0, .ref a1, .ref ae, .ref aw, .int (nI j), .int 0, .int (-1), .int wn, .int cnt])), (ao, .inr (1, [.long (lN j), .int 0])), (aq, .inr (1, [.long (lN j), .int 0]))] H := hP
    refine lv_aload_n hx hb dX5_setUp_53 rfl (lv_at hl 0 rfl) ?_
    refine lv_iconst (v := -1) hx hb dX5_setUp_54 (by decide) ?_
    refine va_put (D := (dC, dI)) (ci := 2) (v := .int (-1)) (ty := .int) (C := RX5) (T := TX5) (N := 9) hx hb hts hinX5 tyX5 tyX5_ok nmX5 hown hK hP (hDD.va rfl) hS 0 rfl rfl 7 (by decide) (hts (.fieldLink RX5 42 "RoyalUrTable" "winner" "I") (List.mem_of_getElem? (i := 8) rfl)) (fun _ h9 => h9) rfl (by decide +kernel) rfl rfl (Nat.le_of_ble_eq_true rfl) dX5_setUp_55 (fun H locs hP hD9 hS => ?_)
    have hP : va_P (dC, dI) vwCl [(ax, .inr (2, [.ref a0, .ref a1, .ref ae, .ref aw, .int (nI j), .int 0, .int (-1), .int (-1), .int cnt])), (ao, .inr (1, [.long (lN j), .int 0])), (aq, .inr (1, [.long (lN j), .int 0]))] H := hP
    refine lv_aload_n hx hb dX5_setUp_58 rfl (lv_at hl 0 rfl) ?_
    refine lv_iconst (v := 0) hx hb dX5_setUp_59 (by decide) ?_
    refine va_put (D := (dC, dI)) (ci := 2) (v := .int 0) (ty := .int) (C := RX5) (T := TX5) (N := 9) hx hb hts hinX5 tyX5 tyX5_ok nmX5 hown hK hP (hDD.va rfl) hS 0 rfl rfl 8 (by decide) (hts (.fieldLink RX5 52 "RoyalUrTable" "throwsTold" "I") (List.mem_of_getElem? (i := 9) rfl)) (fun _ h9 => h9) rfl (by decide +kernel) rfl rfl (Nat.le_of_ble_eq_true rfl) dX5_setUp_60 (fun H locs hP hD9 hS => ?_)
    have hP : va_P (dC, dI) vwCl [(ax, .inr (2, [.ref a0, .ref a1, .ref ae, .ref aw, .int (nI j), .int 0, .int (-1), .int (-1), .int 0])), (ao, .inr (1, [.long (lN j), .int 0])), (aq, .inr (1, [.long (lN j), .int 0]))] H := hP
    subst hQe
    exact W.vret hx hb hr (fun t ht hW => ⟨⟨(), rfl, trivial, zh ht hP⟩, hS.F ht⟩) hS.2.2 dX5_setUp_63

set_option maxHeartbeats 4000000 in
set_option maxRecDepth 100000 in
theorem c_X5_begin (l : Launch) (hl0 : l.stackTraces = false) (dC : Nat → ClassId) (dI : Nat → Nat → Nat) (cyI cyJ : ClassId) (tb ax a0 a1 ae aw ao aq tn9 : Nat) (pI tI mk wn cnt lo lq : Int32) (lx ly : Int64) (hsd : zSd tn9 a0 a1 ao aq) (v : Int32) (hnd : [ax, ao, aq].Nodup) : vx_Met l yX5_begin wsX5_begin ({ frames := 7, cells := 1, slots := 6, locals := 112 }) (zPc [.ref ax, .int v] (dC, dI) vwCl [(cyI, .int), (cyJ, .long)] [(ax, .inr (2, [.ref a0, .ref a1, .ref ae, .ref aw, .int pI, .int tI, .int mk, .int wn, .int cnt])), (ao, .inr (1, [.long lx, .int lo])), (aq, .inr (1, [.long ly, .int lq]))] (fun U => zG tb (zA [ax, ao, aq]) U U.heap)) (va_Qv (fun (u : Nat) => 1 ≤ u ∧ u ≤ 4 ∧ v = nI u) (fun (u : Nat) t => va_P (dC, dI) vwCl ([(ax, .inr (2, [.ref a0, .ref a1, .ref ae, .ref aw, .int (nI u), .int 0, .int (-1), .int (-1), .int 0])), (ao, .inr (1, [.long (lN u), .int 0])), (aq, .inr (1, [.long (lN u), .int 0]))]) t.heap) (zA [ax, ao, aq])) (vx_X (fun (_ : Unit) => True) (fun (E : String) _ _ => E = zIA ∧ ¬ (1 ≤ v ∧ v ≤ 4)) zF) 1 6 (zA [ax, ao, aq]) := by
  refine vx_ofW (cc := cX5_begin) (maxL := 2) (ret := none) (by decide) rfl ?_
  intro p e s m args below meth c s₁ B hml hnt hv
  obtain ⟨rfl, hP, hK, hX⟩ := hv
  have hx := B.exec
  have hb := B.bytes
  have hr := B.returns
  have hts := atoms_spec (ws := wsX5_begin) B.pre
  have hown : s.vm.findClass RX5 = some m.cls := findClass_of_methodNamed B.named
  have hlocks := B.notSynchronized
  have hl := lv_entry ([.ref ax, .int v]) (n := 2) (Nat.le_of_ble_eq_true rfl)
  rw [lg_entry_eq]
  generalize (lg_sl ([.ref ax, .int v]) ++ List.replicate (2 - (lg_sl ([.ref ax, .int v])).length) Slot.unset).toArray = ls at hl ⊢
  have hl : lv_has ls 2 [(0, .ref ax), (1, .int v)] := hl
  have hS : va_S zF s.heap s.heap [] := va_S.rf
  have hl9 := hl.1.trans hml.symm
  have hY : zY zF s s.heap := (hX.2).narrow zF_A
  have hDD : zD (zA [ax, ao, aq]) [ax, ao, aq] := ⟨hnd, fun _ h => h⟩
  refine lv_iload_n hx hb dX5_begin_0 rfl (lv_at hl 1 rfl) ?_
  refine lv_iconst (v := 1) hx hb dX5_begin_1 (by decide) ?_
  refine lv_iconst (v := 4) hx hb dX5_begin_2 (by decide) ?_
  refine zth_v (m1 := 1) (s1 := 6) (vx_runS (As := [.int v, .int 1, .int 4]) (rest := []) ⟨hx, hb, hml, hown, hts⟩ (c_X5_refuseOutside l hl0 v 1 4) (va_cwS 3 hts gX5_begin_X5_refuseOutside rfl rfl rfl (by decide +kernel) ⟨Nat.le_of_ble_eq_true rfl, Nat.le_of_ble_eq_true rfl⟩) (zPx zB_Y (zY_at hY hS zF_A)) rfl rfl hl.1 rfl (lv_room (Nat.le_of_ble_eq_true rfl)) dX5_begin_3 ⟨Nat.le_of_ble_eq_true rfl, Nat.le_of_ble_eq_true rfl⟩) hP hS (fun x hx9 => (hnt x hx9).elim) hlocks (fun hN t ht => ⟨(), trivial, ⟨rfl, hN⟩, ht⟩) (Nat.le_of_ble_eq_true rfl) (Nat.le_of_ble_eq_true rfl) (fun H locs hG_3 hP hS => ?_)
  obtain ⟨j, hj0, hj, rfl⟩ := (zin1_iff (n := 4) (by decide)).mp hG_3
  have hS : va_S (zA [ax, ao, aq]) s.heap H locs := zS_w hS
  refine lv_aload_n hx hb dX5_begin_6 rfl (lv_at hl 0 rfl) ?_
  refine lv_iload_n hx hb dX5_begin_7 rfl (lv_at hl 1 rfl) ?_
  refine zrw_v (w1 := fun _ : Unit => [(ax, .inr (2, [.ref a0, .ref a1, .ref ae, .ref aw, .int (nI j), .int 0, .int (-1), .int (-1), .int 0])), (ao, .inr (1, [.long (lN j), .int 0])), (aq, .inr (1, [.long (lN j), .int 0]))]) (al := [ax, ao, aq]) (va_runV (As := [.int (nI j)]) (rest := []) ⟨hx, hb, hml, hown, hts⟩ (c_X5_setUp l dC dI cyI cyJ ax a0 a1 ae aw ao aq tn9 pI tI mk wn cnt lo lq lx ly hsd j (by omega) hDD.1) (cwV 1 hts gX5_begin_X5_setUp rfl rfl rfl (by decide +kernel) ⟨Nat.le_of_ble_eq_true rfl, Nat.le_of_ble_eq_true rfl⟩) (zPc_V (ci := 2) (q0 := 0) zB_T hP hK rfl rfl [0, 1, 2] rfl (fun _ _ _ => trivial)) rfl rfl hl.1 rfl (lv_room (Nat.le_of_ble_eq_true rfl)) dX5_begin_8 ⟨Nat.le_of_ble_eq_true rfl, Nat.le_of_ble_eq_true rfl⟩) hP hDD hS [0, 1, 2] rfl (fun _ => rfl) (fun u_8 H locs hw_8 hP hS => ?_)
  have hP : va_P (dC, dI) vwCl [(ax, .inr (2, [.ref a0, .ref a1, .ref ae, .ref aw, .int (nI j), .int 0, .int (-1), .int (-1), .int 0])), (ao, .inr (1, [.long (lN j), .int 0])), (aq, .inr (1, [.long (lN j), .int 0]))] H := hP
  refine vx_ret (mc := 1) (ms := 6) ?_
  refine W.widen (k := 1) (n := 6) (Nat.le_of_ble_eq_true rfl) (Nat.le_of_ble_eq_true rfl) ?_
  exact W.vret hx hb hr (fun t ht hW => ⟨⟨j, rfl, ⟨hj0, hj, rfl⟩, zh ht hP⟩, hS.F ht⟩) hS.2.2 dX5_begin_11

set_option maxHeartbeats 4000000 in
set_option maxRecDepth 100000 in
theorem c_X5_tell (l : Launch) (hl0 : l.stackTraces = false) (dC : Nat → ClassId) (dI : Nat → Nat → Nat) (cyI cyJ : ClassId) (tb ax a0 a1 ae aw ao aq : Nat) (mk wn cnt lo lq : Int32) (k tn own oth mm : Nat) (hsd : zSd tn a0 a1 ao aq) (hO : zok k own) (hQ : zok k oth) (hmk : zmk mk mm) (hmm : mm ≤ 4) (v : Int32) (hnd : [ax, ao, aq].Nodup) : vx_Met l yX5_tell wsX5_tell ({ frames := 7, cells := 2, slots := 12, locals := 112 }) (zPc [.ref ax, .int v] (dC, dI) vwCl [(cyI, .int), (cyJ, .long)] [(ax, .inr (2, [.ref a0, .ref a1, .ref ae, .ref aw, .int (nI k), .int (nI tn), .int mk, .int wn, .int cnt])), (ao, .inr (1, [.long (lN own), .int lo])), (aq, .inr (1, [.long (lN oth), .int lq]))] (fun U => zG tb (zA [ax, ao, aq]) U U.heap)) (va_Qi (fun (r : Int32) (u : Int32 × Int32) => ∃ mj, mj ≤ 4 ∧ v = nI mj ∧ wn = -1 ∧ mk = -1 ∧ r = nI (zNum own oth mj 15) ∧ u.1 = (if zNum own oth mj 15 = 0 then nI (1 - tn) else nI tn) ∧ u.2 = (if zNum own oth mj 15 = 0 then -1 else nI mj)) (fun (u : Int32 × Int32) t => va_P (dC, dI) vwCl ([(ax, .inr (2, [.ref a0, .ref a1, .ref ae, .ref aw, .int (nI k), .int u.1, .int u.2, .int wn, .int (cnt + 1)])), (ao, .inr (1, [.long (lN own), .int lo])), (aq, .inr (1, [.long (lN oth), .int lq]))]) t.heap) (zA [ax, ao, aq])) (vx_X (fun (_ : Unit) => True) (fun (E : String) _ _ => (E = zIA ∧ ¬ (0 ≤ v ∧ v ≤ 4)) ∨ (E = zIS ∧ (0 ≤ v ∧ v ≤ 4) ∧ ¬ (wn = -1 ∧ mk = -1))) zF) 2 12 (zA [ax, ao, aq]) := by
  refine vx_ofW (cc := cX5_tell) (maxL := 3) (ret := (some .int)) (by decide) rfl ?_
  intro p e s m args below meth c s₁ B hml hnt hv
  obtain ⟨rfl, hP, hK, hX⟩ := hv
  have hx := B.exec
  have hb := B.bytes
  have hr := B.returns
  have hts := atoms_spec (ws := wsX5_tell) B.pre
  have hown : s.vm.findClass RX5 = some m.cls := findClass_of_methodNamed B.named
  have hlocks := B.notSynchronized
  have hinX5 : ∀ w ∈ wsX50, w ∈ wsX5_tell := by decide +kernel
  have hl := lv_entry ([.ref ax, .int v]) (n := 3) (Nat.le_of_ble_eq_true rfl)
  rw [lg_entry_eq]
  generalize (lg_sl ([.ref ax, .int v]) ++ List.replicate (3 - (lg_sl ([.ref ax, .int v])).length) Slot.unset).toArray = ls at hl ⊢
  have hl : lv_has ls 3 [(0, .ref ax), (1, .int v)] := hl
  have hS : va_S zF s.heap s.heap [] := va_S.rf
  have hl9 := hl.1.trans hml.symm
  have hY : zY zF s s.heap := (hX.2).narrow zF_A
  have hDD : zD (zA [ax, ao, aq]) [ax, ao, aq] := ⟨hnd, fun _ h => h⟩
  have htn := zSd_le hsd
  refine lv_iload_n hx hb dX5_tell_0 rfl (lv_at hl 1 rfl) ?_
  refine lv_iconst (v := 0) hx hb dX5_tell_1 (by decide) ?_
  refine lv_iconst (v := 4) hx hb dX5_tell_2 (by decide) ?_
  refine zth_v (m1 := 1) (s1 := 6) (vx_runS (As := [.int v, .int 0, .int 4]) (rest := []) ⟨hx, hb, hml, hown, hts⟩ (c_X5_refuseOutside l hl0 v 0 4) (va_cwS 3 hts gX5_tell_X5_refuseOutside rfl rfl rfl (by decide +kernel) ⟨Nat.le_of_ble_eq_true rfl, Nat.le_of_ble_eq_true rfl⟩) (zPx zB_Y (zY_at hY hS zF_A)) rfl rfl hl.1 rfl (lv_room (Nat.le_of_ble_eq_true rfl)) dX5_tell_3 ⟨Nat.le_of_ble_eq_true rfl, Nat.le_of_ble_eq_true rfl⟩) hP hS (fun x hx9 => (hnt x hx9).elim) hlocks (fun hN t ht => ⟨(), trivial, Or.inl ⟨rfl, hN⟩, ht⟩) (Nat.le_of_ble_eq_true rfl) (Nat.le_of_ble_eq_true rfl) (fun H locs hG_3 hP hS => ?_)
  obtain ⟨mj, hmj, rfl⟩ := (zin_iff (n := 4) (by decide)).mp hG_3
  refine lv_aload_n hx hb dX5_tell_6 rfl (lv_at hl 0 rfl) ?_
  refine va_get (D := (dC, dI)) (ci := 2) (v := .int wn) (C := RX5) (T := TX5) (N := 9) hx hb hts hinX5 hown hK hP 0 rfl rfl 7 (by decide) (hts (.fieldLink RX5 42 "RoyalUrTable" "winner" "I") (List.mem_of_getElem? (i := 3) rfl)) (fun _ h9 => h9) rfl dX5_tell_7 ?_
  refine lv_iconst (v := -1) hx hb dX5_tell_10 (by decide) ?_
  refine lv_icmp_ne (tgt := 22) hx hb dX5_tell_11 (by decide) (fun c_11 => ?_) (fun c_11 => ?_)
  · skip
    exact vx_throw0 (cls := "java/lang/IllegalStateException") (names := ["java/lang/RuntimeException", "java/lang/Exception"]) (ik := 49) (ic := 51) (A := zF) hx hb hl0 hown (by decide +kernel) (by decide +kernel) (hts (.classLink RX5 49 "java/lang/IllegalStateException") (List.mem_of_getElem? (i := 1) rfl)) (hts (.initialized "java/lang/IllegalStateException") (List.mem_of_getElem? (i := 2) rfl)) (vx_hat (fun w h => hts w (List.mem_cons_of_mem _ (List.mem_append_left _ (List.mem_append_right _ h)))) (by decide +kernel) (vx_c (va_Nw.use rfl hY.2.2.1) (vx_c (va_Nw.use rfl hY.2.2.2.1) (vx_c (va_Nw.use rfl hY.2.2.2.2.1) (vx_c (va_Nw.use rfl hY.2.2.2.2.2.2) vx_n))))) (by decide +kernel) hY.1 hY.2.1 hS hl9 dX5_tell_22 dX5_tell_25 dX5_tell_26 dX5_tell_29 (fun x hx9 => (hnt x hx9).elim) (Nat.le_of_ble_eq_true rfl) (Nat.le_of_ble_eq_true rfl) (Nat.le_of_ble_eq_true rfl) (Nat.le_of_ble_eq_true rfl) hlocks (fun t hv hz hk => ⟨(), trivial, Or.inr ⟨rfl, (zin_iff (n := 4) (by decide)).mpr ⟨mj, hmj, rfl⟩, fun h => c_11 h.1⟩, zthx hS hz hk⟩) (fun z hz => (hS.2.2 z hz).elim) (Nat.le_of_ble_eq_true rfl) (Nat.le_of_ble_eq_true rfl)
  · skip
    refine lv_aload_n hx hb dX5_tell_14 rfl (lv_at hl 0 rfl) ?_
    refine va_get (D := (dC, dI)) (ci := 2) (v := .int mk) (C := RX5) (T := TX5) (N := 9) hx hb hts hinX5 hown hK hP 0 rfl rfl 6 (by decide) (hts (.fieldLink RX5 46 "RoyalUrTable" "marksTold" "I") (List.mem_of_getElem? (i := 4) rfl)) (fun _ h9 => h9) rfl dX5_tell_15 ?_
    refine lv_iconst (v := -1) hx hb dX5_tell_18 (by decide) ?_
    refine lv_icmp_eq (tgt := 30) hx hb dX5_tell_19 (by decide) (fun c_19 => ?_) (fun c_19 => ?_)
    · skip
      have hS : va_S (zA [ax, ao, aq]) s.heap H locs := zS_w hS
      refine lv_aload_n hx hb dX5_tell_30 rfl (lv_at hl 0 rfl) ?_
      refine lv_dup hx hb dX5_tell_31 rfl ?_
      refine va_get (D := (dC, dI)) (ci := 2) (v := .int cnt) (C := RX5) (T := TX5) (N := 9) hx hb hts hinX5 hown hK hP 0 rfl rfl 8 (by decide) (hts (.fieldLink RX5 52 "RoyalUrTable" "throwsTold" "I") (List.mem_of_getElem? (i := 5) rfl)) (fun _ h9 => h9) rfl dX5_tell_32 ?_
      refine lv_iconst (v := 1) hx hb dX5_tell_35 (by decide) ?_
      refine lv_iadd hx hb dX5_tell_36 ?_
      refine va_put (D := (dC, dI)) (ci := 2) (v := .int (cnt + 1)) (ty := .int) (C := RX5) (T := TX5) (N := 9) hx hb hts hinX5 tyX5 tyX5_ok nmX5 hown hK hP (hDD.va rfl) hS 0 rfl rfl 8 (by decide) (hts (.fieldLink RX5 52 "RoyalUrTable" "throwsTold" "I") (List.mem_of_getElem? (i := 5) rfl)) (fun _ h9 => h9) rfl (by decide +kernel) rfl rfl (Nat.le_of_ble_eq_true rfl) dX5_tell_37 (fun H locs hP hD9 hS => ?_)
      have hP : va_P (dC, dI) vwCl [(ax, .inr (2, [.ref a0, .ref a1, .ref ae, .ref aw, .int (nI k), .int (nI tn), .int mk, .int wn, .int (cnt + 1)])), (ao, .inr (1, [.long (lN own), .int lo])), (aq, .inr (1, [.long (lN oth), .int lq]))] H := hP
      refine lv_aload_n hx hb dX5_tell_40 rfl (lv_at hl 0 rfl) ?_
      refine lv_iload_n hx hb dX5_tell_41 rfl (lv_at hl 1 rfl) ?_
      refine zro_i (va_runV (As := [.int (nI mj)]) (rest := []) ⟨hx, hb, hml, hown, hts⟩ (c_X5_countMoves l dC dI cyI cyJ ax a0 a1 ae aw ao aq mk wn (cnt + 1) lo lq k tn own oth hsd hO hQ mj (nI mj) (Or.inl rfl) (by omega)) (cwV 1 hts gX5_tell_X5_countMoves rfl rfl rfl (by decide +kernel) ⟨Nat.le_of_ble_eq_true rfl, Nat.le_of_ble_eq_true rfl⟩) (zPc_V (ci := 2) (q0 := 0) zB_T hP hK rfl rfl [0, 1, 2] rfl (fun _ _ _ => trivial)) rfl rfl hl.1 rfl (lv_room (Nat.le_of_ble_eq_true rfl)) dX5_tell_42 ⟨Nat.le_of_ble_eq_true rfl, Nat.le_of_ble_eq_true rfl⟩) hP hS (fun H locs hP hS => ?_)
      have hnl := zNum_le own oth mj 15
      refine lv_istore_n (lv' := [(2, .int (nI (zNum own oth mj 15))), (0, .ref ax), (1, .int (nI mj))]) hx hb dX5_tell_45 rfl hl (by decide) rfl (fun ls hl => ?_)
      refine lv_iload_n hx hb dX5_tell_46 rfl (lv_at hl 0 rfl) ?_
      refine lv_if_ne (tgt := 63) hx hb dX5_tell_47 (by decide) (fun c_47 => ?_) (fun c_47 => ?_)
      · skip
        have c_47 : ¬ (zNum own oth mj 15) = 0 := fun h9 => c_47 ((nI_eq (a := zNum own oth mj 15) (b := 0) (by omega) (by omega)).mpr h9)
        refine lv_aload_n hx hb dX5_tell_63 rfl (lv_at hl 1 rfl) ?_
        refine lv_iload_n hx hb dX5_tell_64 rfl (lv_at hl 2 rfl) ?_
        refine va_put (D := (dC, dI)) (ci := 2) (v := .int (nI mj)) (ty := .int) (C := RX5) (T := TX5) (N := 9) hx hb hts hinX5 tyX5 tyX5_ok nmX5 hown hK hP (hDD.va rfl) hS 0 rfl rfl 6 (by decide) (hts (.fieldLink RX5 46 "RoyalUrTable" "marksTold" "I") (List.mem_of_getElem? (i := 4) rfl)) (fun _ h9 => h9) rfl (by decide +kernel) rfl rfl (Nat.le_of_ble_eq_true rfl) dX5_tell_65 (fun H locs hP hD9 hS => ?_)
        have hP : va_P (dC, dI) vwCl [(ax, .inr (2, [.ref a0, .ref a1, .ref ae, .ref aw, .int (nI k), .int (nI tn), .int (nI mj), .int wn, .int (cnt + 1)])), (ao, .inr (1, [.long (lN own), .int lo])), (aq, .inr (1, [.long (lN oth), .int lq]))] H := hP
        refine lv_iload_n hx hb dX5_tell_68 rfl (lv_at hl 0 rfl) ?_
        refine vx_ret (mc := 2) (ms := 12) ?_
        refine W.widen (k := 2) (n := 12) (Nat.le_of_ble_eq_true rfl) (Nat.le_of_ble_eq_true rfl) ?_
        exact W.iret (v := nI (zNum own oth mj 15)) hx hb hr (fun t ht hW => ⟨⟨_, (nI tn, nI mj), rfl, ⟨mj, hmj, rfl, c_11, c_19, rfl, (if_neg c_47).symm, (if_neg c_47).symm⟩, zh ht hP⟩, hS.F ht⟩) hS.2.2 dX5_tell_69
      · skip
        have c_47 : (zNum own oth mj 15) = 0 := (nI_eq (a := zNum own oth mj 15) (b := 0) (by omega) (by omega)).mp c_47
        refine lv_aload_n hx hb dX5_tell_50 rfl (lv_at hl 1 rfl) ?_
        refine lv_iconst (v := 1) hx hb dX5_tell_51 (by decide) ?_
        refine lv_aload_n hx hb dX5_tell_52 rfl (lv_at hl 1 rfl) ?_
        refine va_get (D := (dC, dI)) (ci := 2) (v := .int (nI tn)) (C := RX5) (T := TX5) (N := 9) hx hb hts hinX5 hown hK hP 0 rfl rfl 5 (by decide) (hts (.fieldLink RX5 59 "RoyalUrTable" "turn" "I") (List.mem_of_getElem? (i := 6) rfl)) (fun _ h9 => h9) rfl dX5_tell_53 ?_
        refine lv_isub hx hb dX5_tell_56 ?_
        refine zz_i (y := nI (1 - tn)) (pk_sub (a := 1) (b := tn) (by omega)) ?_
        refine va_put (D := (dC, dI)) (ci := 2) (v := .int (nI (1 - tn))) (ty := .int) (C := RX5) (T := TX5) (N := 9) hx hb hts hinX5 tyX5 tyX5_ok nmX5 hown hK hP (hDD.va rfl) hS 0 rfl rfl 5 (by decide) (hts (.fieldLink RX5 59 "RoyalUrTable" "turn" "I") (List.mem_of_getElem? (i := 6) rfl)) (fun _ h9 => h9) rfl (by decide +kernel) rfl rfl (Nat.le_of_ble_eq_true rfl) dX5_tell_57 (fun H locs hP hD9 hS => ?_)
        have hP : va_P (dC, dI) vwCl [(ax, .inr (2, [.ref a0, .ref a1, .ref ae, .ref aw, .int (nI k), .int (nI (1 - tn)), .int mk, .int wn, .int (cnt + 1)])), (ao, .inr (1, [.long (lN own), .int lo])), (aq, .inr (1, [.long (lN oth), .int lq]))] H := hP
        refine lv_goto (tgt := 68) hx hb dX5_tell_60 (by decide) ?_
        refine lv_iload_n hx hb dX5_tell_68 rfl (lv_at hl 0 rfl) ?_
        refine vx_ret (mc := 2) (ms := 12) ?_
        refine W.widen (k := 2) (n := 12) (Nat.le_of_ble_eq_true rfl) (Nat.le_of_ble_eq_true rfl) ?_
        exact W.iret (v := nI (zNum own oth mj 15)) hx hb hr (fun t ht hW => ⟨⟨_, (nI (1 - tn), mk), rfl, ⟨mj, hmj, rfl, c_11, c_19, rfl, (if_pos c_47).symm, (by show mk = _; rw [if_pos c_47]; exact c_19)⟩, zh ht hP⟩, hS.F ht⟩) hS.2.2 dX5_tell_69
    · skip
      exact vx_throw0 (cls := "java/lang/IllegalStateException") (names := ["java/lang/RuntimeException", "java/lang/Exception"]) (ik := 49) (ic := 51) (A := zF) hx hb hl0 hown (by decide +kernel) (by decide +kernel) (hts (.classLink RX5 49 "java/lang/IllegalStateException") (List.mem_of_getElem? (i := 1) rfl)) (hts (.initialized "java/lang/IllegalStateException") (List.mem_of_getElem? (i := 2) rfl)) (vx_hat (fun w h => hts w (List.mem_cons_of_mem _ (List.mem_append_left _ (List.mem_append_right _ h)))) (by decide +kernel) (vx_c (va_Nw.use rfl hY.2.2.1) (vx_c (va_Nw.use rfl hY.2.2.2.1) (vx_c (va_Nw.use rfl hY.2.2.2.2.1) (vx_c (va_Nw.use rfl hY.2.2.2.2.2.2) vx_n))))) (by decide +kernel) hY.1 hY.2.1 hS hl9 dX5_tell_22 dX5_tell_25 dX5_tell_26 dX5_tell_29 (fun x hx9 => (hnt x hx9).elim) (Nat.le_of_ble_eq_true rfl) (Nat.le_of_ble_eq_true rfl) (Nat.le_of_ble_eq_true rfl) (Nat.le_of_ble_eq_true rfl) hlocks (fun t hv hz hk => ⟨(), trivial, Or.inr ⟨rfl, (zin_iff (n := 4) (by decide)).mpr ⟨mj, hmj, rfl⟩, fun h => c_19 h.2⟩, zthx hS hz hk⟩) (fun z hz => (hS.2.2 z hz).elim) (Nat.le_of_ble_eq_true rfl) (Nat.le_of_ble_eq_true rfl)

set_option maxHeartbeats 4000000 in
set_option maxRecDepth 100000 in
theorem c_X5_move (l : Launch) (hl0 : l.stackTraces = false) (dC : Nat → ClassId) (dI : Nat → Nat → Nat) (cyI cyJ : ClassId) (tb ax a0 a1 ae aw ao aq : Nat) (mk wn cnt lo lq : Int32) (k tn own oth mm : Nat) (hsd : zSd tn a0 a1 ao aq) (hO : zok k own) (hQ : zok k oth) (hmk : zmk mk mm) (hmm : mm ≤ 4) (v : Int32) (hnd : [ax, ao, aq].Nodup) : vx_Met l yX5_move wsX5_move ({ frames := 7, cells := 2, slots := 12, locals := 112 }) (zPc [.ref ax, .int v] (dC, dI) vwCl [(cyI, .int), (cyJ, .long)] [(ax, .inr (2, [.ref a0, .ref a1, .ref ae, .ref aw, .int (nI k), .int (nI tn), .int mk, .int wn, .int cnt])), (ao, .inr (1, [.long (lN own), .int lo])), (aq, .inr (1, [.long (lN oth), .int lq]))] (fun U => zG tb (zA [ax, ao, aq]) U U.heap)) (va_Qi (fun (r : Int32) (u : Nat × Int32 × Int32 × Nat × Int32) => u.1 ≤ 14 ∧ v = nI u.1 ∧ zcm own oth u.1 mm = true ∧ r = nI (u.1 + mm) ∧ u.2.1 = (if zros (u.1 + mm) = true then nI tn else nI (1 - tn)) ∧ u.2.2.1 = (if zhome (zsh own u.1 (u.1 + mm)) = true then nI tn else wn) ∧ u.2.2.2.1 = (if ztk oth (u.1 + mm) = true then zsh oth (u.1 + mm) 0 else oth) ∧ u.2.2.2.2 = (if ztk oth (u.1 + mm) = true then lq + 1 else lq)) (fun (u : Nat × Int32 × Int32 × Nat × Int32) t => va_P (dC, dI) vwCl ([(ax, .inr (2, [.ref a0, .ref a1, .ref ae, .ref aw, .int (nI k), .int u.2.1, .int (-1), .int u.2.2.1, .int cnt])), (ao, .inr (1, [.long (lN (zsh own u.1 (u.1 + mm))), .int lo])), (aq, .inr (1, [.long (lN u.2.2.2.1), .int u.2.2.2.2]))]) t.heap) (zA [ax, ao, aq])) (vx_X (fun (_ : Unit) => True) (fun (E : String) _ _ => (E = zIA ∧ ¬ (0 ≤ v ∧ v ≤ 14)) ∨ (E = zIS ∧ ∃ fr, fr ≤ 14 ∧ v = nI fr ∧ zcm own oth fr mm = false)) zF) 2 12 (zA [ax, ao, aq]) := by
  refine vx_ofW (cc := cX5_move) (maxL := 5) (ret := (some .int)) (by decide) rfl ?_
  intro p e s m args below meth c s₁ B hml hnt hv
  obtain ⟨rfl, hP, hK, hX⟩ := hv
  have hx := B.exec
  have hb := B.bytes
  have hr := B.returns
  have hts := atoms_spec (ws := wsX5_move) B.pre
  have hown : s.vm.findClass RX5 = some m.cls := findClass_of_methodNamed B.named
  have hlocks := B.notSynchronized
  have hinX3 : ∀ w ∈ wsX30, w ∈ wsX5_move := by decide +kernel
  have hinX5 : ∀ w ∈ wsX50, w ∈ wsX5_move := by decide +kernel
  have hl := lv_entry ([.ref ax, .int v]) (n := 5) (Nat.le_of_ble_eq_true rfl)
  rw [lg_entry_eq]
  generalize (lg_sl ([.ref ax, .int v]) ++ List.replicate (5 - (lg_sl ([.ref ax, .int v])).length) Slot.unset).toArray = ls at hl ⊢
  have hl : lv_has ls 5 [(0, .ref ax), (1, .int v)] := hl
  have hS : va_S zF s.heap s.heap [] := va_S.rf
  have hl9 := hl.1.trans hml.symm
  have hY : zY zF s s.heap := (hX.2).narrow zF_A
  have hDD : zD (zA [ax, ao, aq]) [ax, ao, aq] := ⟨hnd, fun _ h => h⟩
  have htn := zSd_le hsd
  refine lv_iload_n hx hb dX5_move_0 rfl (lv_at hl 1 rfl) ?_
  refine lv_iconst (v := 0) hx hb dX5_move_1 (by decide) ?_
  refine lv_bipush (v := 14) hx hb dX5_move_2 (by decide) ?_
  refine zth_v (m1 := 1) (s1 := 6) (vx_runS (As := [.int v, .int 0, .int 14]) (rest := []) ⟨hx, hb, hml, hown, hts⟩ (c_X5_refuseOutside l hl0 v 0 14) (va_cwS 3 hts gX5_move_X5_refuseOutside rfl rfl rfl (by decide +kernel) ⟨Nat.le_of_ble_eq_true rfl, Nat.le_of_ble_eq_true rfl⟩) (zPx zB_Y (zY_at hY hS zF_A)) rfl rfl hl.1 rfl (lv_room (Nat.le_of_ble_eq_true rfl)) dX5_move_4 ⟨Nat.le_of_ble_eq_true rfl, Nat.le_of_ble_eq_true rfl⟩) hP hS (fun x hx9 => (hnt x hx9).elim) hlocks (fun hN t ht => ⟨(), trivial, Or.inl ⟨rfl, hN⟩, ht⟩) (Nat.le_of_ble_eq_true rfl) (Nat.le_of_ble_eq_true rfl) (fun H locs hG_4 hP hS => ?_)
  obtain ⟨fr, hfr, rfl⟩ := (zin_iff (n := 14) (by decide)).mp hG_4
  refine lv_aload_n hx hb dX5_move_7 rfl (lv_at hl 0 rfl) ?_
  refine lv_iload_n hx hb dX5_move_8 rfl (lv_at hl 1 rfl) ?_
  refine zro_i (va_runV (As := [.int (nI fr)]) (rest := []) ⟨hx, hb, hml, hown, hts⟩ (c_X5_canMoveFrom l dC dI cyI cyJ ax a0 a1 ae aw ao aq mk wn cnt lo lq k tn own oth hsd hO hQ mm fr hmk hmm (by omega)) (cwV 1 hts gX5_move_X5_canMoveFrom rfl rfl rfl (by decide +kernel) ⟨Nat.le_of_ble_eq_true rfl, Nat.le_of_ble_eq_true rfl⟩) (zPc_V (ci := 2) (q0 := 0) zB_T hP hK rfl rfl [0, 1, 2] rfl (fun _ _ _ => trivial)) rfl rfl hl.1 rfl (lv_room (Nat.le_of_ble_eq_true rfl)) dX5_move_9 ⟨Nat.le_of_ble_eq_true rfl, Nat.le_of_ble_eq_true rfl⟩) hP hS (fun H locs hP hS => ?_)
  refine lv_if_ne (tgt := 23) hx hb dX5_move_12 (by decide) (fun c_12 => ?_) (fun c_12 => ?_)
  · skip
    have c_12 := bI_1.mp c_12
    have hS : va_S (zA [ax, ao, aq]) s.heap H locs := zS_w hS
    have hkn : mk = nI mm := zmk_eq hmk (zcm_spec c_12).1
    obtain ⟨hm0, hd0, hto⟩ := zcm_spec c_12
    have hl1 := hO.lt
    have hl2 := hQ.lt
    have hO2 : zok k (zsh own fr (fr + mm)) := zok_sh hO hd0 (by omega) (by omega) (by omega)
    have hl3 := hO2.lt
    refine lv_iload_n hx hb dX5_move_23 rfl (lv_at hl 1 rfl) ?_
    refine lv_aload_n hx hb dX5_move_24 rfl (lv_at hl 0 rfl) ?_
    refine va_get (D := (dC, dI)) (ci := 2) (v := .int mk) (C := RX5) (T := TX5) (N := 9) hx hb hts hinX5 hown hK hP 0 rfl rfl 6 (by decide) (hts (.fieldLink RX5 46 "RoyalUrTable" "marksTold" "I") (List.mem_of_getElem? (i := 3) rfl)) (fun _ h9 => h9) rfl dX5_move_25 ?_
    refine zz_i (y := nI mm) hkn ?_
    refine lv_iadd hx hb dX5_move_28 ?_
    refine zz_i (y := nI (fr + mm)) (nI_add fr mm) ?_
    refine lv_istore_n (lv' := [(2, .int (nI (fr + mm))), (0, .ref ax), (1, .int (nI fr))]) hx hb dX5_move_29 rfl hl (by decide) rfl (fun ls hl => ?_)
    refine lv_aload_n hx hb dX5_move_30 rfl (lv_at hl 1 rfl) ?_
    refine lv_aload_n hx hb dX5_move_31 rfl (lv_at hl 1 rfl) ?_
    refine va_get (D := (dC, dI)) (ci := 2) (v := .int (nI tn)) (C := RX5) (T := TX5) (N := 9) hx hb hts hinX5 hown hK hP 0 rfl rfl 5 (by decide) (hts (.fieldLink RX5 59 "RoyalUrTable" "turn" "I") (List.mem_of_getElem? (i := 4) rfl)) (fun _ h9 => h9) rfl dX5_move_32 ?_
    refine zro_r (va_runV (As := [.int (nI tn)]) (rest := []) ⟨hx, hb, hml, hown, hts⟩ (c_X5_sideOf l dC dI cyI cyJ ax a0 a1 ae aw (nI k) (nI tn) mk wn cnt tn (by omega)) (cwV 1 hts gX5_move_X5_sideOf rfl rfl rfl (by decide +kernel) ⟨Nat.le_of_ble_eq_true rfl, Nat.le_of_ble_eq_true rfl⟩) (zPc_V (ci := 2) (q0 := 0) zB_T hP hK rfl rfl [0] rfl (fun _ _ _ => trivial)) rfl rfl hl.1 rfl (lv_room (Nat.le_of_ble_eq_true rfl)) dX5_move_35 ⟨Nat.le_of_ble_eq_true rfl, Nat.le_of_ble_eq_true rfl⟩) hP hS (fun H locs hP hS => ?_)
    refine zz_r (y := ao) (zSd_o hsd) ?_
    refine lv_astore_n (lv' := [(3, .ref ao), (2, .int (nI (fr + mm))), (0, .ref ax), (1, .int (nI fr))]) hx hb dX5_move_38 rfl hl (by decide) rfl (fun ls hl => ?_)
    refine lv_aload_n hx hb dX5_move_39 rfl (lv_at hl 2 rfl) ?_
    refine lv_iconst (v := 1) hx hb dX5_move_40 (by decide) ?_
    refine lv_aload_n hx hb dX5_move_41 rfl (lv_at hl 2 rfl) ?_
    refine va_get (D := (dC, dI)) (ci := 2) (v := .int (nI tn)) (C := RX5) (T := TX5) (N := 9) hx hb hts hinX5 hown hK hP 0 rfl rfl 5 (by decide) (hts (.fieldLink RX5 59 "RoyalUrTable" "turn" "I") (List.mem_of_getElem? (i := 4) rfl)) (fun _ h9 => h9) rfl dX5_move_42 ?_
    refine lv_isub hx hb dX5_move_45 ?_
    refine zz_i (y := nI (1 - tn)) (pk_sub (a := 1) (b := tn) (by omega)) ?_
    refine zro_r (va_runV (As := [.int (nI (1 - tn))]) (rest := []) ⟨hx, hb, hml, hown, hts⟩ (c_X5_sideOf l dC dI cyI cyJ ax a0 a1 ae aw (nI k) (nI tn) mk wn cnt (1 - tn) (by omega)) (cwV 1 hts gX5_move_X5_sideOf rfl rfl rfl (by decide +kernel) ⟨Nat.le_of_ble_eq_true rfl, Nat.le_of_ble_eq_true rfl⟩) (zPc_V (ci := 2) (q0 := 0) zB_T hP hK rfl rfl [0] rfl (fun _ _ _ => trivial)) rfl rfl hl.1 rfl (lv_room (Nat.le_of_ble_eq_true rfl)) dX5_move_46 ⟨Nat.le_of_ble_eq_true rfl, Nat.le_of_ble_eq_true rfl⟩) hP hS (fun H locs hP hS => ?_)
    refine zz_r (y := aq) (zSd_q hsd) ?_
    refine lv_astore (lv' := [(4, .ref aq), (3, .ref ao), (2, .int (nI (fr + mm))), (0, .ref ax), (1, .int (nI fr))]) hx hb dX5_move_49 hl (by decide) rfl (fun ls hl => ?_)
    refine lv_aload_n hx hb dX5_move_51 rfl (lv_at hl 1 rfl) ?_
    refine lv_aload_n hx hb dX5_move_52 rfl (lv_at hl 1 rfl) ?_
    refine va_get (D := (dC, dI)) (ci := 1) (v := .long (lN own)) (C := RX3) (T := TX3) (N := 2) hx hb hts hinX3 hown hK hP 1 rfl rfl 0 (by decide) (hts (.fieldLink RX5 70 "RoyalUrTable$Side" "layout" "J") (List.mem_of_getElem? (i := 5) rfl)) (fun _ h9 => h9) rfl dX5_move_53 ?_
    refine lv_iload_n hx hb dX5_move_56 rfl (lv_at hl 4 rfl) ?_
    refine lv_iload_n hx hb dX5_move_57 rfl (lv_at hl 2 rfl) ?_
    refine zro_l (va_runS (As := [.long (lN own), .int (nI fr), .int (nI (fr + mm))]) (rest := [.ref ao]) ⟨hx, hb, hml, hown, hts⟩ (c_X2_shifted l own (by omega) fr (fr + mm) (by omega) (by omega) (dg_le hd0)) (va_cwS 3 hts gX5_move_X2_shifted rfl rfl rfl (by decide +kernel) ⟨Nat.le_of_ble_eq_true rfl, Nat.le_of_ble_eq_true rfl⟩) zPu rfl rfl hl.1 rfl (lv_room (Nat.le_of_ble_eq_true rfl)) dX5_move_58 ⟨Nat.le_of_ble_eq_true rfl, Nat.le_of_ble_eq_true rfl⟩) hP hS (fun H locs hP hS => ?_)
    refine va_put (D := (dC, dI)) (ci := 1) (v := .long (lN (zsh own fr (fr + mm)))) (ty := .long) (C := RX3) (T := TX3) (N := 2) hx hb hts hinX3 tyX3 tyX3_ok nmX3 hown hK hP (hDD.va rfl) hS 1 rfl rfl 0 (by decide) (hts (.fieldLink RX5 70 "RoyalUrTable$Side" "layout" "J") (List.mem_of_getElem? (i := 5) rfl)) (fun _ h9 => h9) rfl (by decide +kernel) rfl rfl (Nat.le_of_ble_eq_true rfl) dX5_move_61 (fun H locs hP hD9 hS => ?_)
    have hP : va_P (dC, dI) vwCl [(ax, .inr (2, [.ref a0, .ref a1, .ref ae, .ref aw, .int (nI k), .int (nI tn), .int mk, .int wn, .int cnt])), (ao, .inr (1, [.long (lN (zsh own fr (fr + mm))), .int lo])), (aq, .inr (1, [.long (lN oth), .int lq]))] H := hP
    refine lv_aload hx hb dX5_move_64 (lv_at hl 0 rfl) ?_
    refine va_get (D := (dC, dI)) (ci := 1) (v := .long (lN oth)) (C := RX3) (T := TX3) (N := 2) hx hb hts hinX3 hown hK hP 2 rfl rfl 0 (by decide) (hts (.fieldLink RX5 70 "RoyalUrTable$Side" "layout" "J") (List.mem_of_getElem? (i := 5) rfl)) (fun _ h9 => h9) rfl dX5_move_66 ?_
    refine lv_iload_n hx hb dX5_move_69 rfl (lv_at hl 2 rfl) ?_
    refine zro_i (va_runS (As := [.long (lN oth), .int (nI (fr + mm))]) (rest := []) ⟨hx, hb, hml, hown, hts⟩ (c_X2_canBeTaken l oth (by omega) (fr + mm) (by omega)) (va_cwS 2 hts gX5_move_X2_canBeTaken rfl rfl rfl (by decide +kernel) ⟨Nat.le_of_ble_eq_true rfl, Nat.le_of_ble_eq_true rfl⟩) zPu rfl rfl hl.1 rfl (lv_room (Nat.le_of_ble_eq_true rfl)) dX5_move_70 ⟨Nat.le_of_ble_eq_true rfl, Nat.le_of_ble_eq_true rfl⟩) hP hS (fun H locs hP hS => ?_)
    refine lv_if_eq (tgt := 102) hx hb dX5_move_73 (by decide) (fun c_73 => ?_) (fun c_73 => ?_)
    · skip
      have c_73 := bI_0.mp c_73
      refine lv_aload_n hx hb dX5_move_102 rfl (lv_at hl 1 rfl) ?_
      refine va_get (D := (dC, dI)) (ci := 1) (v := .long (lN (zsh own fr (fr + mm)))) (C := RX3) (T := TX3) (N := 2) hx hb hts hinX3 hown hK hP 1 rfl rfl 0 (by decide) (hts (.fieldLink RX5 70 "RoyalUrTable$Side" "layout" "J") (List.mem_of_getElem? (i := 5) rfl)) (fun _ h9 => h9) rfl dX5_move_103 ?_
      refine zro_i (va_runS (As := [.long (lN (zsh own fr (fr + mm)))]) (rest := []) ⟨hx, hb, hml, hown, hts⟩ (c_X2_isAllHome l (zsh own fr (fr + mm)) (by omega)) (va_cwS 1 hts gX5_move_X2_isAllHome rfl rfl rfl (by decide +kernel) ⟨Nat.le_of_ble_eq_true rfl, Nat.le_of_ble_eq_true rfl⟩) zPu rfl rfl hl.1 rfl (lv_room (Nat.le_of_ble_eq_true rfl)) dX5_move_106 ⟨Nat.le_of_ble_eq_true rfl, Nat.le_of_ble_eq_true rfl⟩) hP hS (fun H locs hP hS => ?_)
      refine lv_if_eq (tgt := 120) hx hb dX5_move_109 (by decide) (fun c_109 => ?_) (fun c_109 => ?_)
      · skip
        have c_109 := bI_0.mp c_109
        refine lv_iload_n hx hb dX5_move_120 rfl (lv_at hl 2 rfl) ?_
        refine zro_i (va_runS (As := [.int (nI (fr + mm))]) (rest := []) ⟨hx, hb, hml, hown, hts⟩ (c_X4_isRosette l (fr + mm) (by omega)) (va_cwS 1 hts gX5_move_X4_isRosette rfl rfl rfl (by decide +kernel) ⟨Nat.le_of_ble_eq_true rfl, Nat.le_of_ble_eq_true rfl⟩) zPu rfl rfl hl.1 rfl (lv_room (Nat.le_of_ble_eq_true rfl)) dX5_move_121 ⟨Nat.le_of_ble_eq_true rfl, Nat.le_of_ble_eq_true rfl⟩) hP hS (fun H locs hP hS => ?_)
        refine lv_if_ne (tgt := 137) hx hb dX5_move_124 (by decide) (fun c_124 => ?_) (fun c_124 => ?_)
        · skip
          have c_124 := bI_1.mp c_124
          refine lv_aload_n hx hb dX5_move_137 rfl (lv_at hl 3 rfl) ?_
          refine lv_iconst (v := -1) hx hb dX5_move_138 (by decide) ?_
          refine va_put (D := (dC, dI)) (ci := 2) (v := .int (-1)) (ty := .int) (C := RX5) (T := TX5) (N := 9) hx hb hts hinX5 tyX5 tyX5_ok nmX5 hown hK hP (hDD.va rfl) hS 0 rfl rfl 6 (by decide) (hts (.fieldLink RX5 46 "RoyalUrTable" "marksTold" "I") (List.mem_of_getElem? (i := 3) rfl)) (fun _ h9 => h9) rfl (by decide +kernel) rfl rfl (Nat.le_of_ble_eq_true rfl) dX5_move_139 (fun H locs hP hD9 hS => ?_)
          have hP : va_P (dC, dI) vwCl [(ax, .inr (2, [.ref a0, .ref a1, .ref ae, .ref aw, .int (nI k), .int (nI tn), .int (-1), .int wn, .int cnt])), (ao, .inr (1, [.long (lN (zsh own fr (fr + mm))), .int lo])), (aq, .inr (1, [.long (lN oth), .int lq]))] H := hP
          refine lv_iload_n hx hb dX5_move_142 rfl (lv_at hl 2 rfl) ?_
          refine vx_ret (mc := 2) (ms := 12) ?_
          refine W.widen (k := 2) (n := 12) (Nat.le_of_ble_eq_true rfl) (Nat.le_of_ble_eq_true rfl) ?_
          exact W.iret (v := nI (fr + mm)) hx hb hr (fun t ht hW => ⟨⟨_, (fr, nI tn, wn, oth, lq), rfl, ⟨hfr, rfl, c_12, rfl, (if_pos c_124).symm, (if_neg (by rw [c_109]; decide)).symm, (if_neg (by rw [c_73]; decide)).symm, (if_neg (by rw [c_73]; decide)).symm⟩, zh ht hP⟩, hS.F ht⟩) hS.2.2 dX5_move_143
        · skip
          have c_124 := bI_0.mp c_124
          refine lv_aload_n hx hb dX5_move_127 rfl (lv_at hl 3 rfl) ?_
          refine lv_iconst (v := 1) hx hb dX5_move_128 (by decide) ?_
          refine lv_aload_n hx hb dX5_move_129 rfl (lv_at hl 3 rfl) ?_
          refine va_get (D := (dC, dI)) (ci := 2) (v := .int (nI tn)) (C := RX5) (T := TX5) (N := 9) hx hb hts hinX5 hown hK hP 0 rfl rfl 5 (by decide) (hts (.fieldLink RX5 59 "RoyalUrTable" "turn" "I") (List.mem_of_getElem? (i := 4) rfl)) (fun _ h9 => h9) rfl dX5_move_130 ?_
          refine lv_isub hx hb dX5_move_133 ?_
          refine zz_i (y := nI (1 - tn)) (pk_sub (a := 1) (b := tn) (by omega)) ?_
          refine va_put (D := (dC, dI)) (ci := 2) (v := .int (nI (1 - tn))) (ty := .int) (C := RX5) (T := TX5) (N := 9) hx hb hts hinX5 tyX5 tyX5_ok nmX5 hown hK hP (hDD.va rfl) hS 0 rfl rfl 5 (by decide) (hts (.fieldLink RX5 59 "RoyalUrTable" "turn" "I") (List.mem_of_getElem? (i := 4) rfl)) (fun _ h9 => h9) rfl (by decide +kernel) rfl rfl (Nat.le_of_ble_eq_true rfl) dX5_move_134 (fun H locs hP hD9 hS => ?_)
          have hP : va_P (dC, dI) vwCl [(ax, .inr (2, [.ref a0, .ref a1, .ref ae, .ref aw, .int (nI k), .int (nI (1 - tn)), .int mk, .int wn, .int cnt])), (ao, .inr (1, [.long (lN (zsh own fr (fr + mm))), .int lo])), (aq, .inr (1, [.long (lN oth), .int lq]))] H := hP
          refine lv_aload_n hx hb dX5_move_137 rfl (lv_at hl 3 rfl) ?_
          refine lv_iconst (v := -1) hx hb dX5_move_138 (by decide) ?_
          refine va_put (D := (dC, dI)) (ci := 2) (v := .int (-1)) (ty := .int) (C := RX5) (T := TX5) (N := 9) hx hb hts hinX5 tyX5 tyX5_ok nmX5 hown hK hP (hDD.va rfl) hS 0 rfl rfl 6 (by decide) (hts (.fieldLink RX5 46 "RoyalUrTable" "marksTold" "I") (List.mem_of_getElem? (i := 3) rfl)) (fun _ h9 => h9) rfl (by decide +kernel) rfl rfl (Nat.le_of_ble_eq_true rfl) dX5_move_139 (fun H locs hP hD9 hS => ?_)
          have hP : va_P (dC, dI) vwCl [(ax, .inr (2, [.ref a0, .ref a1, .ref ae, .ref aw, .int (nI k), .int (nI (1 - tn)), .int (-1), .int wn, .int cnt])), (ao, .inr (1, [.long (lN (zsh own fr (fr + mm))), .int lo])), (aq, .inr (1, [.long (lN oth), .int lq]))] H := hP
          refine lv_iload_n hx hb dX5_move_142 rfl (lv_at hl 2 rfl) ?_
          refine vx_ret (mc := 2) (ms := 12) ?_
          refine W.widen (k := 2) (n := 12) (Nat.le_of_ble_eq_true rfl) (Nat.le_of_ble_eq_true rfl) ?_
          exact W.iret (v := nI (fr + mm)) hx hb hr (fun t ht hW => ⟨⟨_, (fr, nI (1 - tn), wn, oth, lq), rfl, ⟨hfr, rfl, c_12, rfl, (if_neg (by rw [c_124]; decide)).symm, (if_neg (by rw [c_109]; decide)).symm, (if_neg (by rw [c_73]; decide)).symm, (if_neg (by rw [c_73]; decide)).symm⟩, zh ht hP⟩, hS.F ht⟩) hS.2.2 dX5_move_143
      · skip
        have c_109 := bI_1.mp c_109
        refine lv_aload_n hx hb dX5_move_112 rfl (lv_at hl 3 rfl) ?_
        refine lv_aload_n hx hb dX5_move_113 rfl (lv_at hl 3 rfl) ?_
        refine va_get (D := (dC, dI)) (ci := 2) (v := .int (nI tn)) (C := RX5) (T := TX5) (N := 9) hx hb hts hinX5 hown hK hP 0 rfl rfl 5 (by decide) (hts (.fieldLink RX5 59 "RoyalUrTable" "turn" "I") (List.mem_of_getElem? (i := 4) rfl)) (fun _ h9 => h9) rfl dX5_move_114 ?_
        refine va_put (D := (dC, dI)) (ci := 2) (v := .int (nI tn)) (ty := .int) (C := RX5) (T := TX5) (N := 9) hx hb hts hinX5 tyX5 tyX5_ok nmX5 hown hK hP (hDD.va rfl) hS 0 rfl rfl 7 (by decide) (hts (.fieldLink RX5 42 "RoyalUrTable" "winner" "I") (List.mem_of_getElem? (i := 7) rfl)) (fun _ h9 => h9) rfl (by decide +kernel) rfl rfl (Nat.le_of_ble_eq_true rfl) dX5_move_117 (fun H locs hP hD9 hS => ?_)
        have hP : va_P (dC, dI) vwCl [(ax, .inr (2, [.ref a0, .ref a1, .ref ae, .ref aw, .int (nI k), .int (nI tn), .int mk, .int (nI tn), .int cnt])), (ao, .inr (1, [.long (lN (zsh own fr (fr + mm))), .int lo])), (aq, .inr (1, [.long (lN oth), .int lq]))] H := hP
        refine lv_iload_n hx hb dX5_move_120 rfl (lv_at hl 2 rfl) ?_
        refine zro_i (va_runS (As := [.int (nI (fr + mm))]) (rest := []) ⟨hx, hb, hml, hown, hts⟩ (c_X4_isRosette l (fr + mm) (by omega)) (va_cwS 1 hts gX5_move_X4_isRosette rfl rfl rfl (by decide +kernel) ⟨Nat.le_of_ble_eq_true rfl, Nat.le_of_ble_eq_true rfl⟩) zPu rfl rfl hl.1 rfl (lv_room (Nat.le_of_ble_eq_true rfl)) dX5_move_121 ⟨Nat.le_of_ble_eq_true rfl, Nat.le_of_ble_eq_true rfl⟩) hP hS (fun H locs hP hS => ?_)
        refine lv_if_ne (tgt := 137) hx hb dX5_move_124 (by decide) (fun c_124 => ?_) (fun c_124 => ?_)
        · skip
          have c_124 := bI_1.mp c_124
          refine lv_aload_n hx hb dX5_move_137 rfl (lv_at hl 3 rfl) ?_
          refine lv_iconst (v := -1) hx hb dX5_move_138 (by decide) ?_
          refine va_put (D := (dC, dI)) (ci := 2) (v := .int (-1)) (ty := .int) (C := RX5) (T := TX5) (N := 9) hx hb hts hinX5 tyX5 tyX5_ok nmX5 hown hK hP (hDD.va rfl) hS 0 rfl rfl 6 (by decide) (hts (.fieldLink RX5 46 "RoyalUrTable" "marksTold" "I") (List.mem_of_getElem? (i := 3) rfl)) (fun _ h9 => h9) rfl (by decide +kernel) rfl rfl (Nat.le_of_ble_eq_true rfl) dX5_move_139 (fun H locs hP hD9 hS => ?_)
          have hP : va_P (dC, dI) vwCl [(ax, .inr (2, [.ref a0, .ref a1, .ref ae, .ref aw, .int (nI k), .int (nI tn), .int (-1), .int (nI tn), .int cnt])), (ao, .inr (1, [.long (lN (zsh own fr (fr + mm))), .int lo])), (aq, .inr (1, [.long (lN oth), .int lq]))] H := hP
          refine lv_iload_n hx hb dX5_move_142 rfl (lv_at hl 2 rfl) ?_
          refine vx_ret (mc := 2) (ms := 12) ?_
          refine W.widen (k := 2) (n := 12) (Nat.le_of_ble_eq_true rfl) (Nat.le_of_ble_eq_true rfl) ?_
          exact W.iret (v := nI (fr + mm)) hx hb hr (fun t ht hW => ⟨⟨_, (fr, nI tn, nI tn, oth, lq), rfl, ⟨hfr, rfl, c_12, rfl, (if_pos c_124).symm, (if_pos c_109).symm, (if_neg (by rw [c_73]; decide)).symm, (if_neg (by rw [c_73]; decide)).symm⟩, zh ht hP⟩, hS.F ht⟩) hS.2.2 dX5_move_143
        · skip
          have c_124 := bI_0.mp c_124
          refine lv_aload_n hx hb dX5_move_127 rfl (lv_at hl 3 rfl) ?_
          refine lv_iconst (v := 1) hx hb dX5_move_128 (by decide) ?_
          refine lv_aload_n hx hb dX5_move_129 rfl (lv_at hl 3 rfl) ?_
          refine va_get (D := (dC, dI)) (ci := 2) (v := .int (nI tn)) (C := RX5) (T := TX5) (N := 9) hx hb hts hinX5 hown hK hP 0 rfl rfl 5 (by decide) (hts (.fieldLink RX5 59 "RoyalUrTable" "turn" "I") (List.mem_of_getElem? (i := 4) rfl)) (fun _ h9 => h9) rfl dX5_move_130 ?_
          refine lv_isub hx hb dX5_move_133 ?_
          refine zz_i (y := nI (1 - tn)) (pk_sub (a := 1) (b := tn) (by omega)) ?_
          refine va_put (D := (dC, dI)) (ci := 2) (v := .int (nI (1 - tn))) (ty := .int) (C := RX5) (T := TX5) (N := 9) hx hb hts hinX5 tyX5 tyX5_ok nmX5 hown hK hP (hDD.va rfl) hS 0 rfl rfl 5 (by decide) (hts (.fieldLink RX5 59 "RoyalUrTable" "turn" "I") (List.mem_of_getElem? (i := 4) rfl)) (fun _ h9 => h9) rfl (by decide +kernel) rfl rfl (Nat.le_of_ble_eq_true rfl) dX5_move_134 (fun H locs hP hD9 hS => ?_)
          have hP : va_P (dC, dI) vwCl [(ax, .inr (2, [.ref a0, .ref a1, .ref ae, .ref aw, .int (nI k), .int (nI (1 - tn)), .int mk, .int (nI tn), .int cnt])), (ao, .inr (1, [.long (lN (zsh own fr (fr + mm))), .int lo])), (aq, .inr (1, [.long (lN oth), .int lq]))] H := hP
          refine lv_aload_n hx hb dX5_move_137 rfl (lv_at hl 3 rfl) ?_
          refine lv_iconst (v := -1) hx hb dX5_move_138 (by decide) ?_
          refine va_put (D := (dC, dI)) (ci := 2) (v := .int (-1)) (ty := .int) (C := RX5) (T := TX5) (N := 9) hx hb hts hinX5 tyX5 tyX5_ok nmX5 hown hK hP (hDD.va rfl) hS 0 rfl rfl 6 (by decide) (hts (.fieldLink RX5 46 "RoyalUrTable" "marksTold" "I") (List.mem_of_getElem? (i := 3) rfl)) (fun _ h9 => h9) rfl (by decide +kernel) rfl rfl (Nat.le_of_ble_eq_true rfl) dX5_move_139 (fun H locs hP hD9 hS => ?_)
          have hP : va_P (dC, dI) vwCl [(ax, .inr (2, [.ref a0, .ref a1, .ref ae, .ref aw, .int (nI k), .int (nI (1 - tn)), .int (-1), .int (nI tn), .int cnt])), (ao, .inr (1, [.long (lN (zsh own fr (fr + mm))), .int lo])), (aq, .inr (1, [.long (lN oth), .int lq]))] H := hP
          refine lv_iload_n hx hb dX5_move_142 rfl (lv_at hl 2 rfl) ?_
          refine vx_ret (mc := 2) (ms := 12) ?_
          refine W.widen (k := 2) (n := 12) (Nat.le_of_ble_eq_true rfl) (Nat.le_of_ble_eq_true rfl) ?_
          exact W.iret (v := nI (fr + mm)) hx hb hr (fun t ht hW => ⟨⟨_, (fr, nI (1 - tn), nI tn, oth, lq), rfl, ⟨hfr, rfl, c_12, rfl, (if_neg (by rw [c_124]; decide)).symm, (if_pos c_109).symm, (if_neg (by rw [c_73]; decide)).symm, (if_neg (by rw [c_73]; decide)).symm⟩, zh ht hP⟩, hS.F ht⟩) hS.2.2 dX5_move_143
    · skip
      have c_73 := bI_1.mp c_73
      obtain ⟨ht5, ht12, htd⟩ := ztk_spec c_73
      refine lv_aload hx hb dX5_move_76 (lv_at hl 0 rfl) ?_
      refine lv_aload hx hb dX5_move_78 (lv_at hl 0 rfl) ?_
      refine va_get (D := (dC, dI)) (ci := 1) (v := .long (lN oth)) (C := RX3) (T := TX3) (N := 2) hx hb hts hinX3 hown hK hP 2 rfl rfl 0 (by decide) (hts (.fieldLink RX5 70 "RoyalUrTable$Side" "layout" "J") (List.mem_of_getElem? (i := 5) rfl)) (fun _ h9 => h9) rfl dX5_move_80 ?_
      refine lv_iload_n hx hb dX5_move_83 rfl (lv_at hl 2 rfl) ?_
      refine lv_iconst (v := 0) hx hb dX5_move_84 (by decide) ?_
      refine zro_l (va_runS (As := [.long (lN oth), .int (nI (fr + mm)), .int 0]) (rest := [.ref aq]) ⟨hx, hb, hml, hown, hts⟩ (c_X2_shifted l oth (by omega) (fr + mm) 0 (by omega) (by omega) (dg_le htd)) (va_cwS 3 hts gX5_move_X2_shifted rfl rfl rfl (by decide +kernel) ⟨Nat.le_of_ble_eq_true rfl, Nat.le_of_ble_eq_true rfl⟩) zPu rfl rfl hl.1 rfl (lv_room (Nat.le_of_ble_eq_true rfl)) dX5_move_85 ⟨Nat.le_of_ble_eq_true rfl, Nat.le_of_ble_eq_true rfl⟩) hP hS (fun H locs hP hS => ?_)
      refine va_put (D := (dC, dI)) (ci := 1) (v := .long (lN (zsh oth (fr + mm) 0))) (ty := .long) (C := RX3) (T := TX3) (N := 2) hx hb hts hinX3 tyX3 tyX3_ok nmX3 hown hK hP (hDD.va rfl) hS 2 rfl rfl 0 (by decide) (hts (.fieldLink RX5 70 "RoyalUrTable$Side" "layout" "J") (List.mem_of_getElem? (i := 5) rfl)) (fun _ h9 => h9) rfl (by decide +kernel) rfl rfl (Nat.le_of_ble_eq_true rfl) dX5_move_88 (fun H locs hP hD9 hS => ?_)
      have hP : va_P (dC, dI) vwCl [(ax, .inr (2, [.ref a0, .ref a1, .ref ae, .ref aw, .int (nI k), .int (nI tn), .int mk, .int wn, .int cnt])), (ao, .inr (1, [.long (lN (zsh own fr (fr + mm))), .int lo])), (aq, .inr (1, [.long (lN (zsh oth (fr + mm) 0)), .int lq]))] H := hP
      refine lv_aload hx hb dX5_move_91 (lv_at hl 0 rfl) ?_
      refine lv_dup hx hb dX5_move_93 rfl ?_
      refine va_get (D := (dC, dI)) (ci := 1) (v := .int lq) (C := RX3) (T := TX3) (N := 2) hx hb hts hinX3 hown hK hP 2 rfl rfl 1 (by decide) (hts (.fieldLink RX5 84 "RoyalUrTable$Side" "lost" "I") (List.mem_of_getElem? (i := 6) rfl)) (fun _ h9 => h9) rfl dX5_move_94 ?_
      refine lv_iconst (v := 1) hx hb dX5_move_97 (by decide) ?_
      refine lv_iadd hx hb dX5_move_98 ?_
      refine va_put (D := (dC, dI)) (ci := 1) (v := .int (lq + 1)) (ty := .int) (C := RX3) (T := TX3) (N := 2) hx hb hts hinX3 tyX3 tyX3_ok nmX3 hown hK hP (hDD.va rfl) hS 2 rfl rfl 1 (by decide) (hts (.fieldLink RX5 84 "RoyalUrTable$Side" "lost" "I") (List.mem_of_getElem? (i := 6) rfl)) (fun _ h9 => h9) rfl (by decide +kernel) rfl rfl (Nat.le_of_ble_eq_true rfl) dX5_move_99 (fun H locs hP hD9 hS => ?_)
      have hP : va_P (dC, dI) vwCl [(ax, .inr (2, [.ref a0, .ref a1, .ref ae, .ref aw, .int (nI k), .int (nI tn), .int mk, .int wn, .int cnt])), (ao, .inr (1, [.long (lN (zsh own fr (fr + mm))), .int lo])), (aq, .inr (1, [.long (lN (zsh oth (fr + mm) 0)), .int (lq + 1)]))] H := hP
      refine lv_aload_n hx hb dX5_move_102 rfl (lv_at hl 1 rfl) ?_
      refine va_get (D := (dC, dI)) (ci := 1) (v := .long (lN (zsh own fr (fr + mm)))) (C := RX3) (T := TX3) (N := 2) hx hb hts hinX3 hown hK hP 1 rfl rfl 0 (by decide) (hts (.fieldLink RX5 70 "RoyalUrTable$Side" "layout" "J") (List.mem_of_getElem? (i := 5) rfl)) (fun _ h9 => h9) rfl dX5_move_103 ?_
      refine zro_i (va_runS (As := [.long (lN (zsh own fr (fr + mm)))]) (rest := []) ⟨hx, hb, hml, hown, hts⟩ (c_X2_isAllHome l (zsh own fr (fr + mm)) (by omega)) (va_cwS 1 hts gX5_move_X2_isAllHome rfl rfl rfl (by decide +kernel) ⟨Nat.le_of_ble_eq_true rfl, Nat.le_of_ble_eq_true rfl⟩) zPu rfl rfl hl.1 rfl (lv_room (Nat.le_of_ble_eq_true rfl)) dX5_move_106 ⟨Nat.le_of_ble_eq_true rfl, Nat.le_of_ble_eq_true rfl⟩) hP hS (fun H locs hP hS => ?_)
      refine lv_if_eq (tgt := 120) hx hb dX5_move_109 (by decide) (fun c_109 => ?_) (fun c_109 => ?_)
      · skip
        have c_109 := bI_0.mp c_109
        refine lv_iload_n hx hb dX5_move_120 rfl (lv_at hl 2 rfl) ?_
        refine zro_i (va_runS (As := [.int (nI (fr + mm))]) (rest := []) ⟨hx, hb, hml, hown, hts⟩ (c_X4_isRosette l (fr + mm) (by omega)) (va_cwS 1 hts gX5_move_X4_isRosette rfl rfl rfl (by decide +kernel) ⟨Nat.le_of_ble_eq_true rfl, Nat.le_of_ble_eq_true rfl⟩) zPu rfl rfl hl.1 rfl (lv_room (Nat.le_of_ble_eq_true rfl)) dX5_move_121 ⟨Nat.le_of_ble_eq_true rfl, Nat.le_of_ble_eq_true rfl⟩) hP hS (fun H locs hP hS => ?_)
        refine lv_if_ne (tgt := 137) hx hb dX5_move_124 (by decide) (fun c_124 => ?_) (fun c_124 => ?_)
        · skip
          have c_124 := bI_1.mp c_124
          refine lv_aload_n hx hb dX5_move_137 rfl (lv_at hl 3 rfl) ?_
          refine lv_iconst (v := -1) hx hb dX5_move_138 (by decide) ?_
          refine va_put (D := (dC, dI)) (ci := 2) (v := .int (-1)) (ty := .int) (C := RX5) (T := TX5) (N := 9) hx hb hts hinX5 tyX5 tyX5_ok nmX5 hown hK hP (hDD.va rfl) hS 0 rfl rfl 6 (by decide) (hts (.fieldLink RX5 46 "RoyalUrTable" "marksTold" "I") (List.mem_of_getElem? (i := 3) rfl)) (fun _ h9 => h9) rfl (by decide +kernel) rfl rfl (Nat.le_of_ble_eq_true rfl) dX5_move_139 (fun H locs hP hD9 hS => ?_)
          have hP : va_P (dC, dI) vwCl [(ax, .inr (2, [.ref a0, .ref a1, .ref ae, .ref aw, .int (nI k), .int (nI tn), .int (-1), .int wn, .int cnt])), (ao, .inr (1, [.long (lN (zsh own fr (fr + mm))), .int lo])), (aq, .inr (1, [.long (lN (zsh oth (fr + mm) 0)), .int (lq + 1)]))] H := hP
          refine lv_iload_n hx hb dX5_move_142 rfl (lv_at hl 2 rfl) ?_
          refine vx_ret (mc := 2) (ms := 12) ?_
          refine W.widen (k := 2) (n := 12) (Nat.le_of_ble_eq_true rfl) (Nat.le_of_ble_eq_true rfl) ?_
          exact W.iret (v := nI (fr + mm)) hx hb hr (fun t ht hW => ⟨⟨_, (fr, nI tn, wn, zsh oth (fr + mm) 0, lq + 1), rfl, ⟨hfr, rfl, c_12, rfl, (if_pos c_124).symm, (if_neg (by rw [c_109]; decide)).symm, (if_pos c_73).symm, (if_pos c_73).symm⟩, zh ht hP⟩, hS.F ht⟩) hS.2.2 dX5_move_143
        · skip
          have c_124 := bI_0.mp c_124
          refine lv_aload_n hx hb dX5_move_127 rfl (lv_at hl 3 rfl) ?_
          refine lv_iconst (v := 1) hx hb dX5_move_128 (by decide) ?_
          refine lv_aload_n hx hb dX5_move_129 rfl (lv_at hl 3 rfl) ?_
          refine va_get (D := (dC, dI)) (ci := 2) (v := .int (nI tn)) (C := RX5) (T := TX5) (N := 9) hx hb hts hinX5 hown hK hP 0 rfl rfl 5 (by decide) (hts (.fieldLink RX5 59 "RoyalUrTable" "turn" "I") (List.mem_of_getElem? (i := 4) rfl)) (fun _ h9 => h9) rfl dX5_move_130 ?_
          refine lv_isub hx hb dX5_move_133 ?_
          refine zz_i (y := nI (1 - tn)) (pk_sub (a := 1) (b := tn) (by omega)) ?_
          refine va_put (D := (dC, dI)) (ci := 2) (v := .int (nI (1 - tn))) (ty := .int) (C := RX5) (T := TX5) (N := 9) hx hb hts hinX5 tyX5 tyX5_ok nmX5 hown hK hP (hDD.va rfl) hS 0 rfl rfl 5 (by decide) (hts (.fieldLink RX5 59 "RoyalUrTable" "turn" "I") (List.mem_of_getElem? (i := 4) rfl)) (fun _ h9 => h9) rfl (by decide +kernel) rfl rfl (Nat.le_of_ble_eq_true rfl) dX5_move_134 (fun H locs hP hD9 hS => ?_)
          have hP : va_P (dC, dI) vwCl [(ax, .inr (2, [.ref a0, .ref a1, .ref ae, .ref aw, .int (nI k), .int (nI (1 - tn)), .int mk, .int wn, .int cnt])), (ao, .inr (1, [.long (lN (zsh own fr (fr + mm))), .int lo])), (aq, .inr (1, [.long (lN (zsh oth (fr + mm) 0)), .int (lq + 1)]))] H := hP
          refine lv_aload_n hx hb dX5_move_137 rfl (lv_at hl 3 rfl) ?_
          refine lv_iconst (v := -1) hx hb dX5_move_138 (by decide) ?_
          refine va_put (D := (dC, dI)) (ci := 2) (v := .int (-1)) (ty := .int) (C := RX5) (T := TX5) (N := 9) hx hb hts hinX5 tyX5 tyX5_ok nmX5 hown hK hP (hDD.va rfl) hS 0 rfl rfl 6 (by decide) (hts (.fieldLink RX5 46 "RoyalUrTable" "marksTold" "I") (List.mem_of_getElem? (i := 3) rfl)) (fun _ h9 => h9) rfl (by decide +kernel) rfl rfl (Nat.le_of_ble_eq_true rfl) dX5_move_139 (fun H locs hP hD9 hS => ?_)
          have hP : va_P (dC, dI) vwCl [(ax, .inr (2, [.ref a0, .ref a1, .ref ae, .ref aw, .int (nI k), .int (nI (1 - tn)), .int (-1), .int wn, .int cnt])), (ao, .inr (1, [.long (lN (zsh own fr (fr + mm))), .int lo])), (aq, .inr (1, [.long (lN (zsh oth (fr + mm) 0)), .int (lq + 1)]))] H := hP
          refine lv_iload_n hx hb dX5_move_142 rfl (lv_at hl 2 rfl) ?_
          refine vx_ret (mc := 2) (ms := 12) ?_
          refine W.widen (k := 2) (n := 12) (Nat.le_of_ble_eq_true rfl) (Nat.le_of_ble_eq_true rfl) ?_
          exact W.iret (v := nI (fr + mm)) hx hb hr (fun t ht hW => ⟨⟨_, (fr, nI (1 - tn), wn, zsh oth (fr + mm) 0, lq + 1), rfl, ⟨hfr, rfl, c_12, rfl, (if_neg (by rw [c_124]; decide)).symm, (if_neg (by rw [c_109]; decide)).symm, (if_pos c_73).symm, (if_pos c_73).symm⟩, zh ht hP⟩, hS.F ht⟩) hS.2.2 dX5_move_143
      · skip
        have c_109 := bI_1.mp c_109
        refine lv_aload_n hx hb dX5_move_112 rfl (lv_at hl 3 rfl) ?_
        refine lv_aload_n hx hb dX5_move_113 rfl (lv_at hl 3 rfl) ?_
        refine va_get (D := (dC, dI)) (ci := 2) (v := .int (nI tn)) (C := RX5) (T := TX5) (N := 9) hx hb hts hinX5 hown hK hP 0 rfl rfl 5 (by decide) (hts (.fieldLink RX5 59 "RoyalUrTable" "turn" "I") (List.mem_of_getElem? (i := 4) rfl)) (fun _ h9 => h9) rfl dX5_move_114 ?_
        refine va_put (D := (dC, dI)) (ci := 2) (v := .int (nI tn)) (ty := .int) (C := RX5) (T := TX5) (N := 9) hx hb hts hinX5 tyX5 tyX5_ok nmX5 hown hK hP (hDD.va rfl) hS 0 rfl rfl 7 (by decide) (hts (.fieldLink RX5 42 "RoyalUrTable" "winner" "I") (List.mem_of_getElem? (i := 7) rfl)) (fun _ h9 => h9) rfl (by decide +kernel) rfl rfl (Nat.le_of_ble_eq_true rfl) dX5_move_117 (fun H locs hP hD9 hS => ?_)
        have hP : va_P (dC, dI) vwCl [(ax, .inr (2, [.ref a0, .ref a1, .ref ae, .ref aw, .int (nI k), .int (nI tn), .int mk, .int (nI tn), .int cnt])), (ao, .inr (1, [.long (lN (zsh own fr (fr + mm))), .int lo])), (aq, .inr (1, [.long (lN (zsh oth (fr + mm) 0)), .int (lq + 1)]))] H := hP
        refine lv_iload_n hx hb dX5_move_120 rfl (lv_at hl 2 rfl) ?_
        refine zro_i (va_runS (As := [.int (nI (fr + mm))]) (rest := []) ⟨hx, hb, hml, hown, hts⟩ (c_X4_isRosette l (fr + mm) (by omega)) (va_cwS 1 hts gX5_move_X4_isRosette rfl rfl rfl (by decide +kernel) ⟨Nat.le_of_ble_eq_true rfl, Nat.le_of_ble_eq_true rfl⟩) zPu rfl rfl hl.1 rfl (lv_room (Nat.le_of_ble_eq_true rfl)) dX5_move_121 ⟨Nat.le_of_ble_eq_true rfl, Nat.le_of_ble_eq_true rfl⟩) hP hS (fun H locs hP hS => ?_)
        refine lv_if_ne (tgt := 137) hx hb dX5_move_124 (by decide) (fun c_124 => ?_) (fun c_124 => ?_)
        · skip
          have c_124 := bI_1.mp c_124
          refine lv_aload_n hx hb dX5_move_137 rfl (lv_at hl 3 rfl) ?_
          refine lv_iconst (v := -1) hx hb dX5_move_138 (by decide) ?_
          refine va_put (D := (dC, dI)) (ci := 2) (v := .int (-1)) (ty := .int) (C := RX5) (T := TX5) (N := 9) hx hb hts hinX5 tyX5 tyX5_ok nmX5 hown hK hP (hDD.va rfl) hS 0 rfl rfl 6 (by decide) (hts (.fieldLink RX5 46 "RoyalUrTable" "marksTold" "I") (List.mem_of_getElem? (i := 3) rfl)) (fun _ h9 => h9) rfl (by decide +kernel) rfl rfl (Nat.le_of_ble_eq_true rfl) dX5_move_139 (fun H locs hP hD9 hS => ?_)
          have hP : va_P (dC, dI) vwCl [(ax, .inr (2, [.ref a0, .ref a1, .ref ae, .ref aw, .int (nI k), .int (nI tn), .int (-1), .int (nI tn), .int cnt])), (ao, .inr (1, [.long (lN (zsh own fr (fr + mm))), .int lo])), (aq, .inr (1, [.long (lN (zsh oth (fr + mm) 0)), .int (lq + 1)]))] H := hP
          refine lv_iload_n hx hb dX5_move_142 rfl (lv_at hl 2 rfl) ?_
          refine vx_ret (mc := 2) (ms := 12) ?_
          refine W.widen (k := 2) (n := 12) (Nat.le_of_ble_eq_true rfl) (Nat.le_of_ble_eq_true rfl) ?_
          exact W.iret (v := nI (fr + mm)) hx hb hr (fun t ht hW => ⟨⟨_, (fr, nI tn, nI tn, zsh oth (fr + mm) 0, lq + 1), rfl, ⟨hfr, rfl, c_12, rfl, (if_pos c_124).symm, (if_pos c_109).symm, (if_pos c_73).symm, (if_pos c_73).symm⟩, zh ht hP⟩, hS.F ht⟩) hS.2.2 dX5_move_143
        · skip
          have c_124 := bI_0.mp c_124
          refine lv_aload_n hx hb dX5_move_127 rfl (lv_at hl 3 rfl) ?_
          refine lv_iconst (v := 1) hx hb dX5_move_128 (by decide) ?_
          refine lv_aload_n hx hb dX5_move_129 rfl (lv_at hl 3 rfl) ?_
          refine va_get (D := (dC, dI)) (ci := 2) (v := .int (nI tn)) (C := RX5) (T := TX5) (N := 9) hx hb hts hinX5 hown hK hP 0 rfl rfl 5 (by decide) (hts (.fieldLink RX5 59 "RoyalUrTable" "turn" "I") (List.mem_of_getElem? (i := 4) rfl)) (fun _ h9 => h9) rfl dX5_move_130 ?_
          refine lv_isub hx hb dX5_move_133 ?_
          refine zz_i (y := nI (1 - tn)) (pk_sub (a := 1) (b := tn) (by omega)) ?_
          refine va_put (D := (dC, dI)) (ci := 2) (v := .int (nI (1 - tn))) (ty := .int) (C := RX5) (T := TX5) (N := 9) hx hb hts hinX5 tyX5 tyX5_ok nmX5 hown hK hP (hDD.va rfl) hS 0 rfl rfl 5 (by decide) (hts (.fieldLink RX5 59 "RoyalUrTable" "turn" "I") (List.mem_of_getElem? (i := 4) rfl)) (fun _ h9 => h9) rfl (by decide +kernel) rfl rfl (Nat.le_of_ble_eq_true rfl) dX5_move_134 (fun H locs hP hD9 hS => ?_)
          have hP : va_P (dC, dI) vwCl [(ax, .inr (2, [.ref a0, .ref a1, .ref ae, .ref aw, .int (nI k), .int (nI (1 - tn)), .int mk, .int (nI tn), .int cnt])), (ao, .inr (1, [.long (lN (zsh own fr (fr + mm))), .int lo])), (aq, .inr (1, [.long (lN (zsh oth (fr + mm) 0)), .int (lq + 1)]))] H := hP
          refine lv_aload_n hx hb dX5_move_137 rfl (lv_at hl 3 rfl) ?_
          refine lv_iconst (v := -1) hx hb dX5_move_138 (by decide) ?_
          refine va_put (D := (dC, dI)) (ci := 2) (v := .int (-1)) (ty := .int) (C := RX5) (T := TX5) (N := 9) hx hb hts hinX5 tyX5 tyX5_ok nmX5 hown hK hP (hDD.va rfl) hS 0 rfl rfl 6 (by decide) (hts (.fieldLink RX5 46 "RoyalUrTable" "marksTold" "I") (List.mem_of_getElem? (i := 3) rfl)) (fun _ h9 => h9) rfl (by decide +kernel) rfl rfl (Nat.le_of_ble_eq_true rfl) dX5_move_139 (fun H locs hP hD9 hS => ?_)
          have hP : va_P (dC, dI) vwCl [(ax, .inr (2, [.ref a0, .ref a1, .ref ae, .ref aw, .int (nI k), .int (nI (1 - tn)), .int (-1), .int (nI tn), .int cnt])), (ao, .inr (1, [.long (lN (zsh own fr (fr + mm))), .int lo])), (aq, .inr (1, [.long (lN (zsh oth (fr + mm) 0)), .int (lq + 1)]))] H := hP
          refine lv_iload_n hx hb dX5_move_142 rfl (lv_at hl 2 rfl) ?_
          refine vx_ret (mc := 2) (ms := 12) ?_
          refine W.widen (k := 2) (n := 12) (Nat.le_of_ble_eq_true rfl) (Nat.le_of_ble_eq_true rfl) ?_
          exact W.iret (v := nI (fr + mm)) hx hb hr (fun t ht hW => ⟨⟨_, (fr, nI (1 - tn), nI tn, zsh oth (fr + mm) 0, lq + 1), rfl, ⟨hfr, rfl, c_12, rfl, (if_neg (by rw [c_124]; decide)).symm, (if_pos c_109).symm, (if_pos c_73).symm, (if_pos c_73).symm⟩, zh ht hP⟩, hS.F ht⟩) hS.2.2 dX5_move_143
  · skip
    have c_12 := bI_0.mp c_12
    exact vx_throw0 (cls := "java/lang/IllegalStateException") (names := ["java/lang/RuntimeException", "java/lang/Exception"]) (ik := 49) (ic := 51) (A := zF) hx hb hl0 hown (by decide +kernel) (by decide +kernel) (hts (.classLink RX5 49 "java/lang/IllegalStateException") (List.mem_of_getElem? (i := 1) rfl)) (hts (.initialized "java/lang/IllegalStateException") (List.mem_of_getElem? (i := 2) rfl)) (vx_hat (fun w h => hts w (List.mem_cons_of_mem _ (List.mem_append_left _ (List.mem_append_right _ h)))) (by decide +kernel) (vx_c (va_Nw.use rfl hY.2.2.1) (vx_c (va_Nw.use rfl hY.2.2.2.1) (vx_c (va_Nw.use rfl hY.2.2.2.2.1) (vx_c (va_Nw.use rfl hY.2.2.2.2.2.2) vx_n))))) (by decide +kernel) hY.1 hY.2.1 hS hl9 dX5_move_15 dX5_move_18 dX5_move_19 dX5_move_22 (fun x hx9 => (hnt x hx9).elim) (Nat.le_of_ble_eq_true rfl) (Nat.le_of_ble_eq_true rfl) (Nat.le_of_ble_eq_true rfl) (Nat.le_of_ble_eq_true rfl) hlocks (fun t hv hz hk => ⟨(), trivial, Or.inr ⟨rfl, fr, hfr, rfl, c_12⟩, zthx hS hz hk⟩) (fun z hz => (hS.2.2 z hz).elim) (Nat.le_of_ble_eq_true rfl) (Nat.le_of_ble_eq_true rfl)

set_option maxHeartbeats 4000000 in
set_option maxRecDepth 100000 in
theorem c_X5_at (l : Launch) (hl0 : l.stackTraces = false) (dC : Nat → ClassId) (dI : Nat → Nat → Nat) (cyI cyJ : ClassId) (tb ax a0 a1 ae aw ao aq : Nat) (mk wn cnt lo lq : Int32) (k tn own oth mm : Nat) (hsd : zSd tn a0 a1 ao aq) (hO : zok k own) (hQ : zok k oth) (hmk : zmk mk mm) (hmm : mm ≤ 4) (v w9 : Int32) : vx_Met l yX5_at wsX5_at ({ frames := 7, cells := 2, slots := 12, locals := 112 }) (zPc [.ref ax, .int v, .int w9] (dC, dI) vwCl [(cyI, .int), (cyJ, .long)] [(ax, .inr (2, [.ref a0, .ref a1, .ref ae, .ref aw, .int (nI k), .int (nI tn), .int mk, .int wn, .int cnt])), (ao, .inr (1, [.long (lN own), .int lo])), (aq, .inr (1, [.long (lN oth), .int lq]))] (fun U => zG tb zF U U.heap)) (va_Qi (fun (r : Int32) (_ : Unit) => ∃ sN pN : Nat, sN ≤ 1 ∧ pN ≤ 15 ∧ v = nI sN ∧ w9 = nI pN ∧ r = nI (dg (if sN = tn then own else oth) pN)) (fun _ _ => True) zF) (vx_X (fun (_ : Unit) => True) (fun (E : String) _ _ => E = zIA ∧ ¬ ((0 ≤ v ∧ v ≤ 1) ∧ (0 ≤ w9 ∧ w9 ≤ 15))) zF) 2 12 zF := by
  refine vx_ofW (cc := cX5_at) (maxL := 3) (ret := (some .int)) (by decide) rfl ?_
  intro p e s m args below meth c s₁ B hml hnt hv
  obtain ⟨rfl, hP, hK, hX⟩ := hv
  have hx := B.exec
  have hb := B.bytes
  have hr := B.returns
  have hts := atoms_spec (ws := wsX5_at) B.pre
  have hown : s.vm.findClass RX5 = some m.cls := findClass_of_methodNamed B.named
  have hlocks := B.notSynchronized
  have hinX3 : ∀ w ∈ wsX30, w ∈ wsX5_at := by decide +kernel
  have hl := lv_entry ([.ref ax, .int v, .int w9]) (n := 3) (Nat.le_of_ble_eq_true rfl)
  rw [lg_entry_eq]
  generalize (lg_sl ([.ref ax, .int v, .int w9]) ++ List.replicate (3 - (lg_sl ([.ref ax, .int v, .int w9])).length) Slot.unset).toArray = ls at hl ⊢
  have hl : lv_has ls 3 [(0, .ref ax), (1, .int v), (2, .int w9)] := hl
  have hS : va_S zF s.heap s.heap [] := va_S.rf
  have hl9 := hl.1.trans hml.symm
  have hY : zY zF s s.heap := (hX.2).narrow zF_A
  have htn := zSd_le hsd
  have hl1 := hO.lt
  have hl2 := hQ.lt
  refine lv_iload_n hx hb dX5_at_0 rfl (lv_at hl 1 rfl) ?_
  refine lv_iconst (v := 0) hx hb dX5_at_1 (by decide) ?_
  refine lv_iconst (v := 1) hx hb dX5_at_2 (by decide) ?_
  refine zth_v (m1 := 1) (s1 := 6) (vx_runS (As := [.int v, .int 0, .int 1]) (rest := []) ⟨hx, hb, hml, hown, hts⟩ (c_X5_refuseOutside l hl0 v 0 1) (va_cwS 3 hts gX5_at_X5_refuseOutside rfl rfl rfl (by decide +kernel) ⟨Nat.le_of_ble_eq_true rfl, Nat.le_of_ble_eq_true rfl⟩) (zPx zB_Y (zY_at hY hS zF_A)) rfl rfl hl.1 rfl (lv_room (Nat.le_of_ble_eq_true rfl)) dX5_at_3 ⟨Nat.le_of_ble_eq_true rfl, Nat.le_of_ble_eq_true rfl⟩) hP hS (fun x hx9 => (hnt x hx9).elim) hlocks (fun hN t ht => ⟨(), trivial, ⟨rfl, fun h => hN h.1⟩, ht⟩) (Nat.le_of_ble_eq_true rfl) (Nat.le_of_ble_eq_true rfl) (fun H locs hG_3 hP hS => ?_)
  obtain ⟨sN, hsN, rfl⟩ := (zin_iff (n := 1) (by decide)).mp hG_3
  refine lv_iload_n hx hb dX5_at_6 rfl (lv_at hl 2 rfl) ?_
  refine lv_iconst (v := 0) hx hb dX5_at_7 (by decide) ?_
  refine lv_bipush (v := 15) hx hb dX5_at_8 (by decide) ?_
  refine zth_v (m1 := 1) (s1 := 6) (vx_runS (As := [.int w9, .int 0, .int 15]) (rest := []) ⟨hx, hb, hml, hown, hts⟩ (c_X5_refuseOutside l hl0 w9 0 15) (va_cwS 3 hts gX5_at_X5_refuseOutside rfl rfl rfl (by decide +kernel) ⟨Nat.le_of_ble_eq_true rfl, Nat.le_of_ble_eq_true rfl⟩) (zPx zB_Y (zY_at hY hS zF_A)) rfl rfl hl.1 rfl (lv_room (Nat.le_of_ble_eq_true rfl)) dX5_at_10 ⟨Nat.le_of_ble_eq_true rfl, Nat.le_of_ble_eq_true rfl⟩) hP hS (fun x hx9 => (hnt x hx9).elim) hlocks (fun hN t ht => ⟨(), trivial, ⟨rfl, fun h => hN h.2⟩, ht⟩) (Nat.le_of_ble_eq_true rfl) (Nat.le_of_ble_eq_true rfl) (fun H locs hG_10 hP hS => ?_)
  obtain ⟨pN, hpN, rfl⟩ := (zin_iff (n := 15) (by decide)).mp hG_10
  refine lv_aload_n hx hb dX5_at_13 rfl (lv_at hl 0 rfl) ?_
  refine lv_iload_n hx hb dX5_at_14 rfl (lv_at hl 1 rfl) ?_
  refine zro_r (va_runV (As := [.int (nI sN)]) (rest := []) ⟨hx, hb, hml, hown, hts⟩ (c_X5_sideOf l dC dI cyI cyJ ax a0 a1 ae aw (nI k) (nI tn) mk wn cnt sN (by omega)) (cwV 1 hts gX5_at_X5_sideOf rfl rfl rfl (by decide +kernel) ⟨Nat.le_of_ble_eq_true rfl, Nat.le_of_ble_eq_true rfl⟩) (zPc_V (ci := 2) (q0 := 0) zB_T hP hK rfl rfl [0] rfl (fun _ _ _ => trivial)) rfl rfl hl.1 rfl (lv_room (Nat.le_of_ble_eq_true rfl)) dX5_at_15 ⟨Nat.le_of_ble_eq_true rfl, Nat.le_of_ble_eq_true rfl⟩) hP hS (fun H locs hP hS => ?_)
  by_cases hst : sN = tn
  · skip
    refine zz_r (y := ao) (zSd_e hsd (by omega) hst) ?_
    refine va_get (D := (dC, dI)) (ci := 1) (v := .long (lN own)) (C := RX3) (T := TX3) (N := 2) hx hb hts hinX3 hown hK hP 1 rfl rfl 0 (by decide) (hts (.fieldLink RX5 70 "RoyalUrTable$Side" "layout" "J") (List.mem_of_getElem? (i := 1) rfl)) (fun _ h9 => h9) rfl dX5_at_18 ?_
    refine lv_iload_n hx hb dX5_at_21 rfl (lv_at hl 2 rfl) ?_
    refine zro_i (va_runS (As := [.long (lN own), .int (nI pN)]) (rest := []) ⟨hx, hb, hml, hown, hts⟩ (c_X2_countAt l own (by omega) pN (by omega)) (va_cwS 2 hts gX5_at_X2_countAt rfl rfl rfl (by decide +kernel) ⟨Nat.le_of_ble_eq_true rfl, Nat.le_of_ble_eq_true rfl⟩) zPu rfl rfl hl.1 rfl (lv_room (Nat.le_of_ble_eq_true rfl)) dX5_at_22 ⟨Nat.le_of_ble_eq_true rfl, Nat.le_of_ble_eq_true rfl⟩) hP hS (fun H locs hP hS => ?_)
    have hd_22 := dg_lt own pN
    refine vx_ret (mc := 2) (ms := 12) ?_
    refine W.widen (k := 2) (n := 12) (Nat.le_of_ble_eq_true rfl) (Nat.le_of_ble_eq_true rfl) ?_
    exact W.iret (v := nI (dg own pN)) hx hb hr (fun t ht hW => ⟨⟨_, (), rfl, ⟨sN, pN, hsN, hpN, rfl, rfl, (by rw [if_pos hst])⟩, trivial⟩, hS.F ht⟩) hS.2.2 dX5_at_25
  · skip
    refine zz_r (y := aq) (zSd_n hsd (by omega) hst) ?_
    refine va_get (D := (dC, dI)) (ci := 1) (v := .long (lN oth)) (C := RX3) (T := TX3) (N := 2) hx hb hts hinX3 hown hK hP 2 rfl rfl 0 (by decide) (hts (.fieldLink RX5 70 "RoyalUrTable$Side" "layout" "J") (List.mem_of_getElem? (i := 1) rfl)) (fun _ h9 => h9) rfl dX5_at_18 ?_
    refine lv_iload_n hx hb dX5_at_21 rfl (lv_at hl 2 rfl) ?_
    refine zro_i (va_runS (As := [.long (lN oth), .int (nI pN)]) (rest := []) ⟨hx, hb, hml, hown, hts⟩ (c_X2_countAt l oth (by omega) pN (by omega)) (va_cwS 2 hts gX5_at_X2_countAt rfl rfl rfl (by decide +kernel) ⟨Nat.le_of_ble_eq_true rfl, Nat.le_of_ble_eq_true rfl⟩) zPu rfl rfl hl.1 rfl (lv_room (Nat.le_of_ble_eq_true rfl)) dX5_at_22 ⟨Nat.le_of_ble_eq_true rfl, Nat.le_of_ble_eq_true rfl⟩) hP hS (fun H locs hP hS => ?_)
    have hd_22 := dg_lt oth pN
    refine vx_ret (mc := 2) (ms := 12) ?_
    refine W.widen (k := 2) (n := 12) (Nat.le_of_ble_eq_true rfl) (Nat.le_of_ble_eq_true rfl) ?_
    exact W.iret (v := nI (dg oth pN)) hx hb hr (fun t ht hW => ⟨⟨_, (), rfl, ⟨sN, pN, hsN, hpN, rfl, rfl, (by rw [if_neg hst])⟩, trivial⟩, hS.F ht⟩) hS.2.2 dX5_at_25

set_option maxHeartbeats 4000000 in
set_option maxRecDepth 100000 in
theorem c_X5_progress (l : Launch) (hl0 : l.stackTraces = false) (dC : Nat → ClassId) (dI : Nat → Nat → Nat) (cyI cyJ : ClassId) (tb ax a0 a1 ae aw ao aq : Nat) (mk wn cnt lo lq : Int32) (k tn own oth mm : Nat) (hsd : zSd tn a0 a1 ao aq) (hO : zok k own) (hQ : zok k oth) (hmk : zmk mk mm) (hmm : mm ≤ 4) (v : Int32) : vx_Met l yX5_progress wsX5_progress ({ frames := 7, cells := 1, slots := 6, locals := 112 }) (zPc [.ref ax, .int v] (dC, dI) vwCl [(cyI, .int), (cyJ, .long)] [(ax, .inr (2, [.ref a0, .ref a1, .ref ae, .ref aw, .int (nI k), .int (nI tn), .int mk, .int wn, .int cnt])), (ao, .inr (1, [.long (lN own), .int lo])), (aq, .inr (1, [.long (lN oth), .int lq]))] (fun U => zG tb zF U U.heap)) (va_Qi (fun (r : Int32) (_ : Unit) => ∃ sN : Nat, sN ≤ 1 ∧ v = nI sN ∧ r = nI (psum (if sN = tn then own else oth) 16)) (fun _ _ => True) zF) (vx_X (fun (_ : Unit) => True) (fun (E : String) _ _ => E = zIA ∧ ¬ (0 ≤ v ∧ v ≤ 1)) zF) 1 6 zF := by
  refine vx_ofW (cc := cX5_progress) (maxL := 2) (ret := (some .int)) (by decide) rfl ?_
  intro p e s m args below meth c s₁ B hml hnt hv
  obtain ⟨rfl, hP, hK, hX⟩ := hv
  have hx := B.exec
  have hb := B.bytes
  have hr := B.returns
  have hts := atoms_spec (ws := wsX5_progress) B.pre
  have hown : s.vm.findClass RX5 = some m.cls := findClass_of_methodNamed B.named
  have hlocks := B.notSynchronized
  have hinX3 : ∀ w ∈ wsX30, w ∈ wsX5_progress := by decide +kernel
  have hl := lv_entry ([.ref ax, .int v]) (n := 2) (Nat.le_of_ble_eq_true rfl)
  rw [lg_entry_eq]
  generalize (lg_sl ([.ref ax, .int v]) ++ List.replicate (2 - (lg_sl ([.ref ax, .int v])).length) Slot.unset).toArray = ls at hl ⊢
  have hl : lv_has ls 2 [(0, .ref ax), (1, .int v)] := hl
  have hS : va_S zF s.heap s.heap [] := va_S.rf
  have hl9 := hl.1.trans hml.symm
  have hY : zY zF s s.heap := (hX.2).narrow zF_A
  have htn := zSd_le hsd
  have hl1 := hO.lt
  have hl2 := hQ.lt
  refine lv_iload_n hx hb dX5_progress_0 rfl (lv_at hl 1 rfl) ?_
  refine lv_iconst (v := 0) hx hb dX5_progress_1 (by decide) ?_
  refine lv_iconst (v := 1) hx hb dX5_progress_2 (by decide) ?_
  refine zth_v (m1 := 1) (s1 := 6) (vx_runS (As := [.int v, .int 0, .int 1]) (rest := []) ⟨hx, hb, hml, hown, hts⟩ (c_X5_refuseOutside l hl0 v 0 1) (va_cwS 3 hts gX5_progress_X5_refuseOutside rfl rfl rfl (by decide +kernel) ⟨Nat.le_of_ble_eq_true rfl, Nat.le_of_ble_eq_true rfl⟩) (zPx zB_Y (zY_at hY hS zF_A)) rfl rfl hl.1 rfl (lv_room (Nat.le_of_ble_eq_true rfl)) dX5_progress_3 ⟨Nat.le_of_ble_eq_true rfl, Nat.le_of_ble_eq_true rfl⟩) hP hS (fun x hx9 => (hnt x hx9).elim) hlocks (fun hN t ht => ⟨(), trivial, ⟨rfl, hN⟩, ht⟩) (Nat.le_of_ble_eq_true rfl) (Nat.le_of_ble_eq_true rfl) (fun H locs hG_3 hP hS => ?_)
  obtain ⟨sN, hsN, rfl⟩ := (zin_iff (n := 1) (by decide)).mp hG_3
  refine lv_aload_n hx hb dX5_progress_6 rfl (lv_at hl 0 rfl) ?_
  refine lv_iload_n hx hb dX5_progress_7 rfl (lv_at hl 1 rfl) ?_
  refine zro_r (va_runV (As := [.int (nI sN)]) (rest := []) ⟨hx, hb, hml, hown, hts⟩ (c_X5_sideOf l dC dI cyI cyJ ax a0 a1 ae aw (nI k) (nI tn) mk wn cnt sN (by omega)) (cwV 1 hts gX5_progress_X5_sideOf rfl rfl rfl (by decide +kernel) ⟨Nat.le_of_ble_eq_true rfl, Nat.le_of_ble_eq_true rfl⟩) (zPc_V (ci := 2) (q0 := 0) zB_T hP hK rfl rfl [0] rfl (fun _ _ _ => trivial)) rfl rfl hl.1 rfl (lv_room (Nat.le_of_ble_eq_true rfl)) dX5_progress_8 ⟨Nat.le_of_ble_eq_true rfl, Nat.le_of_ble_eq_true rfl⟩) hP hS (fun H locs hP hS => ?_)
  by_cases hst : sN = tn
  · skip
    refine zz_r (y := ao) (zSd_e hsd (by omega) hst) ?_
    refine va_get (D := (dC, dI)) (ci := 1) (v := .long (lN own)) (C := RX3) (T := TX3) (N := 2) hx hb hts hinX3 hown hK hP 1 rfl rfl 0 (by decide) (hts (.fieldLink RX5 70 "RoyalUrTable$Side" "layout" "J") (List.mem_of_getElem? (i := 1) rfl)) (fun _ h9 => h9) rfl dX5_progress_11 ?_
    refine zro_i (va_runS (As := [.long (lN own)]) (rest := []) ⟨hx, hb, hml, hown, hts⟩ (c_X2_sumOfPlaces l own (by omega)) (va_cwS 1 hts gX5_progress_X2_sumOfPlaces rfl rfl rfl (by decide +kernel) ⟨Nat.le_of_ble_eq_true rfl, Nat.le_of_ble_eq_true rfl⟩) zPu rfl rfl hl.1 rfl (lv_room (Nat.le_of_ble_eq_true rfl)) dX5_progress_14 ⟨Nat.le_of_ble_eq_true rfl, Nat.le_of_ble_eq_true rfl⟩) hP hS (fun H locs hP hS => ?_)
    refine vx_ret (mc := 1) (ms := 6) ?_
    refine W.widen (k := 1) (n := 6) (Nat.le_of_ble_eq_true rfl) (Nat.le_of_ble_eq_true rfl) ?_
    exact W.iret (v := nI (psum own 16)) hx hb hr (fun t ht hW => ⟨⟨_, (), rfl, ⟨sN, hsN, rfl, (by rw [if_pos hst])⟩, trivial⟩, hS.F ht⟩) hS.2.2 dX5_progress_17
  · skip
    refine zz_r (y := aq) (zSd_n hsd (by omega) hst) ?_
    refine va_get (D := (dC, dI)) (ci := 1) (v := .long (lN oth)) (C := RX3) (T := TX3) (N := 2) hx hb hts hinX3 hown hK hP 2 rfl rfl 0 (by decide) (hts (.fieldLink RX5 70 "RoyalUrTable$Side" "layout" "J") (List.mem_of_getElem? (i := 1) rfl)) (fun _ h9 => h9) rfl dX5_progress_11 ?_
    refine zro_i (va_runS (As := [.long (lN oth)]) (rest := []) ⟨hx, hb, hml, hown, hts⟩ (c_X2_sumOfPlaces l oth (by omega)) (va_cwS 1 hts gX5_progress_X2_sumOfPlaces rfl rfl rfl (by decide +kernel) ⟨Nat.le_of_ble_eq_true rfl, Nat.le_of_ble_eq_true rfl⟩) zPu rfl rfl hl.1 rfl (lv_room (Nat.le_of_ble_eq_true rfl)) dX5_progress_14 ⟨Nat.le_of_ble_eq_true rfl, Nat.le_of_ble_eq_true rfl⟩) hP hS (fun H locs hP hS => ?_)
    refine vx_ret (mc := 1) (ms := 6) ?_
    refine W.widen (k := 1) (n := 6) (Nat.le_of_ble_eq_true rfl) (Nat.le_of_ble_eq_true rfl) ?_
    exact W.iret (v := nI (psum oth 16)) hx hb hr (fun t ht hW => ⟨⟨_, (), rfl, ⟨sN, hsN, rfl, (by rw [if_neg hst])⟩, trivial⟩, hS.F ht⟩) hS.2.2 dX5_progress_17

set_option maxHeartbeats 4000000 in
set_option maxRecDepth 100000 in
theorem c_X5_captured (l : Launch) (hl0 : l.stackTraces = false) (dC : Nat → ClassId) (dI : Nat → Nat → Nat) (cyI cyJ : ClassId) (tb ax a0 a1 ae aw ao aq : Nat) (mk wn cnt lo lq : Int32) (k tn own oth mm : Nat) (hsd : zSd tn a0 a1 ao aq) (hO : zok k own) (hQ : zok k oth) (hmk : zmk mk mm) (hmm : mm ≤ 4) (v : Int32) : vx_Met l yX5_captured wsX5_captured ({ frames := 7, cells := 1, slots := 6, locals := 112 }) (zPc [.ref ax, .int v] (dC, dI) vwCl [(cyI, .int), (cyJ, .long)] [(ax, .inr (2, [.ref a0, .ref a1, .ref ae, .ref aw, .int (nI k), .int (nI tn), .int mk, .int wn, .int cnt])), (ao, .inr (1, [.long (lN own), .int lo])), (aq, .inr (1, [.long (lN oth), .int lq]))] (fun U => zG tb zF U U.heap)) (va_Qi (fun (r : Int32) (_ : Unit) => ∃ sN : Nat, sN ≤ 1 ∧ v = nI sN ∧ r = (if sN = tn then lo else lq)) (fun _ _ => True) zF) (vx_X (fun (_ : Unit) => True) (fun (E : String) _ _ => E = zIA ∧ ¬ (0 ≤ v ∧ v ≤ 1)) zF) 1 6 zF := by
  refine vx_ofW (cc := cX5_captured) (maxL := 2) (ret := (some .int)) (by decide) rfl ?_
  intro p e s m args below meth c s₁ B hml hnt hv
  obtain ⟨rfl, hP, hK, hX⟩ := hv
  have hx := B.exec
  have hb := B.bytes
  have hr := B.returns
  have hts := atoms_spec (ws := wsX5_captured) B.pre
  have hown : s.vm.findClass RX5 = some m.cls := findClass_of_methodNamed B.named
  have hlocks := B.notSynchronized
  have hinX3 : ∀ w ∈ wsX30, w ∈ wsX5_captured := by decide +kernel
  have hl := lv_entry ([.ref ax, .int v]) (n := 2) (Nat.le_of_ble_eq_true rfl)
  rw [lg_entry_eq]
  generalize (lg_sl ([.ref ax, .int v]) ++ List.replicate (2 - (lg_sl ([.ref ax, .int v])).length) Slot.unset).toArray = ls at hl ⊢
  have hl : lv_has ls 2 [(0, .ref ax), (1, .int v)] := hl
  have hS : va_S zF s.heap s.heap [] := va_S.rf
  have hl9 := hl.1.trans hml.symm
  have hY : zY zF s s.heap := (hX.2).narrow zF_A
  have htn := zSd_le hsd
  refine lv_iload_n hx hb dX5_captured_0 rfl (lv_at hl 1 rfl) ?_
  refine lv_iconst (v := 0) hx hb dX5_captured_1 (by decide) ?_
  refine lv_iconst (v := 1) hx hb dX5_captured_2 (by decide) ?_
  refine zth_v (m1 := 1) (s1 := 6) (vx_runS (As := [.int v, .int 0, .int 1]) (rest := []) ⟨hx, hb, hml, hown, hts⟩ (c_X5_refuseOutside l hl0 v 0 1) (va_cwS 3 hts gX5_captured_X5_refuseOutside rfl rfl rfl (by decide +kernel) ⟨Nat.le_of_ble_eq_true rfl, Nat.le_of_ble_eq_true rfl⟩) (zPx zB_Y (zY_at hY hS zF_A)) rfl rfl hl.1 rfl (lv_room (Nat.le_of_ble_eq_true rfl)) dX5_captured_3 ⟨Nat.le_of_ble_eq_true rfl, Nat.le_of_ble_eq_true rfl⟩) hP hS (fun x hx9 => (hnt x hx9).elim) hlocks (fun hN t ht => ⟨(), trivial, ⟨rfl, hN⟩, ht⟩) (Nat.le_of_ble_eq_true rfl) (Nat.le_of_ble_eq_true rfl) (fun H locs hG_3 hP hS => ?_)
  obtain ⟨sN, hsN, rfl⟩ := (zin_iff (n := 1) (by decide)).mp hG_3
  refine lv_aload_n hx hb dX5_captured_6 rfl (lv_at hl 0 rfl) ?_
  refine lv_iload_n hx hb dX5_captured_7 rfl (lv_at hl 1 rfl) ?_
  refine zro_r (va_runV (As := [.int (nI sN)]) (rest := []) ⟨hx, hb, hml, hown, hts⟩ (c_X5_sideOf l dC dI cyI cyJ ax a0 a1 ae aw (nI k) (nI tn) mk wn cnt sN (by omega)) (cwV 1 hts gX5_captured_X5_sideOf rfl rfl rfl (by decide +kernel) ⟨Nat.le_of_ble_eq_true rfl, Nat.le_of_ble_eq_true rfl⟩) (zPc_V (ci := 2) (q0 := 0) zB_T hP hK rfl rfl [0] rfl (fun _ _ _ => trivial)) rfl rfl hl.1 rfl (lv_room (Nat.le_of_ble_eq_true rfl)) dX5_captured_8 ⟨Nat.le_of_ble_eq_true rfl, Nat.le_of_ble_eq_true rfl⟩) hP hS (fun H locs hP hS => ?_)
  by_cases hst : sN = tn
  · skip
    refine zz_r (y := ao) (zSd_e hsd (by omega) hst) ?_
    refine va_get (D := (dC, dI)) (ci := 1) (v := .int lo) (C := RX3) (T := TX3) (N := 2) hx hb hts hinX3 hown hK hP 1 rfl rfl 1 (by decide) (hts (.fieldLink RX5 84 "RoyalUrTable$Side" "lost" "I") (List.mem_of_getElem? (i := 1) rfl)) (fun _ h9 => h9) rfl dX5_captured_11 ?_
    refine vx_ret (mc := 1) (ms := 6) ?_
    refine W.widen (k := 1) (n := 6) (Nat.le_of_ble_eq_true rfl) (Nat.le_of_ble_eq_true rfl) ?_
    exact W.iret (v := lo) hx hb hr (fun t ht hW => ⟨⟨_, (), rfl, ⟨sN, hsN, rfl, (by rw [if_pos hst])⟩, trivial⟩, hS.F ht⟩) hS.2.2 dX5_captured_14
  · skip
    refine zz_r (y := aq) (zSd_n hsd (by omega) hst) ?_
    refine va_get (D := (dC, dI)) (ci := 1) (v := .int lq) (C := RX3) (T := TX3) (N := 2) hx hb hts hinX3 hown hK hP 2 rfl rfl 1 (by decide) (hts (.fieldLink RX5 84 "RoyalUrTable$Side" "lost" "I") (List.mem_of_getElem? (i := 1) rfl)) (fun _ h9 => h9) rfl dX5_captured_11 ?_
    refine vx_ret (mc := 1) (ms := 6) ?_
    refine W.widen (k := 1) (n := 6) (Nat.le_of_ble_eq_true rfl) (Nat.le_of_ble_eq_true rfl) ?_
    exact W.iret (v := lq) hx hb hr (fun t ht hW => ⟨⟨_, (), rfl, ⟨sN, hsN, rfl, (by rw [if_neg hst])⟩, trivial⟩, hS.F ht⟩) hS.2.2 dX5_captured_14

set_option maxHeartbeats 4000000 in
set_option maxRecDepth 100000 in
theorem c_X5_captures (l : Launch) (hl0 : l.stackTraces = false) (dC : Nat → ClassId) (dI : Nat → Nat → Nat) (cyI cyJ : ClassId) (tb ax a0 a1 ae aw ao aq : Nat) (mk wn cnt lo lq : Int32) (k tn own oth mm : Nat) (hsd : zSd tn a0 a1 ao aq) (hO : zok k own) (hQ : zok k oth) (hmk : zmk mk mm) (hmm : mm ≤ 4) (v : Int32) : vx_Met l yX5_captures wsX5_captures ({ frames := 7, cells := 1, slots := 6, locals := 112 }) (zPc [.ref ax, .int v] (dC, dI) vwCl [(cyI, .int), (cyJ, .long)] [(ax, .inr (2, [.ref a0, .ref a1, .ref ae, .ref aw, .int (nI k), .int (nI tn), .int mk, .int wn, .int cnt])), (ao, .inr (1, [.long (lN own), .int lo])), (aq, .inr (1, [.long (lN oth), .int lq]))] (fun U => zG tb zF U U.heap)) (va_Qi (fun (r : Int32) (_ : Unit) => ∃ fr, fr ≤ 14 ∧ v = nI fr ∧ r = bI (zcm own oth fr mm && ztk oth (fr + mm))) (fun _ _ => True) zF) (vx_X (fun (_ : Unit) => True) (fun (E : String) _ _ => E = zIA ∧ ¬ (0 ≤ v ∧ v ≤ 14)) zF) 1 6 zF := by
  refine vx_ofW (cc := cX5_captures) (maxL := 2) (ret := (some .boolean)) (by decide) rfl ?_
  intro p e s m args below meth c s₁ B hml hnt hv
  obtain ⟨rfl, hP, hK, hX⟩ := hv
  have hx := B.exec
  have hb := B.bytes
  have hr := B.returns
  have hts := atoms_spec (ws := wsX5_captures) B.pre
  have hown : s.vm.findClass RX5 = some m.cls := findClass_of_methodNamed B.named
  have hlocks := B.notSynchronized
  have hinX3 : ∀ w ∈ wsX30, w ∈ wsX5_captures := by decide +kernel
  have hinX5 : ∀ w ∈ wsX50, w ∈ wsX5_captures := by decide +kernel
  have hl := lv_entry ([.ref ax, .int v]) (n := 2) (Nat.le_of_ble_eq_true rfl)
  rw [lg_entry_eq]
  generalize (lg_sl ([.ref ax, .int v]) ++ List.replicate (2 - (lg_sl ([.ref ax, .int v])).length) Slot.unset).toArray = ls at hl ⊢
  have hl : lv_has ls 2 [(0, .ref ax), (1, .int v)] := hl
  have hS : va_S zF s.heap s.heap [] := va_S.rf
  have hl9 := hl.1.trans hml.symm
  have hY : zY zF s s.heap := (hX.2).narrow zF_A
  have htn := zSd_le hsd
  have hl2 := hQ.lt
  refine lv_iload_n hx hb dX5_captures_0 rfl (lv_at hl 1 rfl) ?_
  refine lv_iconst (v := 0) hx hb dX5_captures_1 (by decide) ?_
  refine lv_bipush (v := 14) hx hb dX5_captures_2 (by decide) ?_
  refine zth_v (m1 := 1) (s1 := 6) (vx_runS (As := [.int v, .int 0, .int 14]) (rest := []) ⟨hx, hb, hml, hown, hts⟩ (c_X5_refuseOutside l hl0 v 0 14) (va_cwS 3 hts gX5_captures_X5_refuseOutside rfl rfl rfl (by decide +kernel) ⟨Nat.le_of_ble_eq_true rfl, Nat.le_of_ble_eq_true rfl⟩) (zPx zB_Y (zY_at hY hS zF_A)) rfl rfl hl.1 rfl (lv_room (Nat.le_of_ble_eq_true rfl)) dX5_captures_4 ⟨Nat.le_of_ble_eq_true rfl, Nat.le_of_ble_eq_true rfl⟩) hP hS (fun x hx9 => (hnt x hx9).elim) hlocks (fun hN t ht => ⟨(), trivial, ⟨rfl, hN⟩, ht⟩) (Nat.le_of_ble_eq_true rfl) (Nat.le_of_ble_eq_true rfl) (fun H locs hG_4 hP hS => ?_)
  obtain ⟨fr, hfr, rfl⟩ := (zin_iff (n := 14) (by decide)).mp hG_4
  refine lv_aload_n hx hb dX5_captures_7 rfl (lv_at hl 0 rfl) ?_
  refine lv_iload_n hx hb dX5_captures_8 rfl (lv_at hl 1 rfl) ?_
  refine zro_i (va_runV (As := [.int (nI fr)]) (rest := []) ⟨hx, hb, hml, hown, hts⟩ (c_X5_canMoveFrom l dC dI cyI cyJ ax a0 a1 ae aw ao aq mk wn cnt lo lq k tn own oth hsd hO hQ mm fr hmk hmm (by omega)) (cwV 1 hts gX5_captures_X5_canMoveFrom rfl rfl rfl (by decide +kernel) ⟨Nat.le_of_ble_eq_true rfl, Nat.le_of_ble_eq_true rfl⟩) (zPc_V (ci := 2) (q0 := 0) zB_T hP hK rfl rfl [0, 1, 2] rfl (fun _ _ _ => trivial)) rfl rfl hl.1 rfl (lv_room (Nat.le_of_ble_eq_true rfl)) dX5_captures_9 ⟨Nat.le_of_ble_eq_true rfl, Nat.le_of_ble_eq_true rfl⟩) hP hS (fun H locs hP hS => ?_)
  refine lv_if_eq (tgt := 44) hx hb dX5_captures_12 (by decide) (fun c_12 => ?_) (fun c_12 => ?_)
  · skip
    have c_12 := bI_0.mp c_12
    refine lv_iconst (v := 0) hx hb dX5_captures_44 (by decide) ?_
    refine vx_ret (mc := 1) (ms := 6) ?_
    refine W.widen (k := 1) (n := 6) (Nat.le_of_ble_eq_true rfl) (Nat.le_of_ble_eq_true rfl) ?_
    exact W.zret (v := 0) hx hb hr rfl (fun t ht hW => ⟨⟨_, (), rfl, ⟨fr, hfr, rfl, bI_f (by rw [c_12]; rfl)⟩, trivial⟩, hS.F ht⟩) hS.2.2 dX5_captures_45
  · skip
    have c_12 := bI_1.mp c_12
    have hkn : mk = nI mm := zmk_eq hmk (zcm_spec c_12).1
    refine lv_aload_n hx hb dX5_captures_15 rfl (lv_at hl 0 rfl) ?_
    refine lv_iconst (v := 1) hx hb dX5_captures_16 (by decide) ?_
    refine lv_aload_n hx hb dX5_captures_17 rfl (lv_at hl 0 rfl) ?_
    refine va_get (D := (dC, dI)) (ci := 2) (v := .int (nI tn)) (C := RX5) (T := TX5) (N := 9) hx hb hts hinX5 hown hK hP 0 rfl rfl 5 (by decide) (hts (.fieldLink RX5 59 "RoyalUrTable" "turn" "I") (List.mem_of_getElem? (i := 1) rfl)) (fun _ h9 => h9) rfl dX5_captures_18 ?_
    refine lv_isub hx hb dX5_captures_21 ?_
    refine zz_i (y := nI (1 - tn)) (pk_sub (a := 1) (b := tn) (by omega)) ?_
    refine zro_r (va_runV (As := [.int (nI (1 - tn))]) (rest := []) ⟨hx, hb, hml, hown, hts⟩ (c_X5_sideOf l dC dI cyI cyJ ax a0 a1 ae aw (nI k) (nI tn) mk wn cnt (1 - tn) (by omega)) (cwV 1 hts gX5_captures_X5_sideOf rfl rfl rfl (by decide +kernel) ⟨Nat.le_of_ble_eq_true rfl, Nat.le_of_ble_eq_true rfl⟩) (zPc_V (ci := 2) (q0 := 0) zB_T hP hK rfl rfl [0] rfl (fun _ _ _ => trivial)) rfl rfl hl.1 rfl (lv_room (Nat.le_of_ble_eq_true rfl)) dX5_captures_22 ⟨Nat.le_of_ble_eq_true rfl, Nat.le_of_ble_eq_true rfl⟩) hP hS (fun H locs hP hS => ?_)
    refine zz_r (y := aq) (zSd_q hsd) ?_
    refine va_get (D := (dC, dI)) (ci := 1) (v := .long (lN oth)) (C := RX3) (T := TX3) (N := 2) hx hb hts hinX3 hown hK hP 2 rfl rfl 0 (by decide) (hts (.fieldLink RX5 70 "RoyalUrTable$Side" "layout" "J") (List.mem_of_getElem? (i := 2) rfl)) (fun _ h9 => h9) rfl dX5_captures_25 ?_
    refine lv_iload_n hx hb dX5_captures_28 rfl (lv_at hl 1 rfl) ?_
    refine lv_aload_n hx hb dX5_captures_29 rfl (lv_at hl 0 rfl) ?_
    refine va_get (D := (dC, dI)) (ci := 2) (v := .int mk) (C := RX5) (T := TX5) (N := 9) hx hb hts hinX5 hown hK hP 0 rfl rfl 6 (by decide) (hts (.fieldLink RX5 46 "RoyalUrTable" "marksTold" "I") (List.mem_of_getElem? (i := 3) rfl)) (fun _ h9 => h9) rfl dX5_captures_30 ?_
    refine zz_i (y := nI mm) hkn ?_
    refine lv_iadd hx hb dX5_captures_33 ?_
    refine zz_i (y := nI (fr + mm)) (nI_add fr mm) ?_
    refine zro_i (va_runS (As := [.long (lN oth), .int (nI (fr + mm))]) (rest := []) ⟨hx, hb, hml, hown, hts⟩ (c_X2_canBeTaken l oth (by omega) (fr + mm) (by omega)) (va_cwS 2 hts gX5_captures_X2_canBeTaken rfl rfl rfl (by decide +kernel) ⟨Nat.le_of_ble_eq_true rfl, Nat.le_of_ble_eq_true rfl⟩) zPu rfl rfl hl.1 rfl (lv_room (Nat.le_of_ble_eq_true rfl)) dX5_captures_34 ⟨Nat.le_of_ble_eq_true rfl, Nat.le_of_ble_eq_true rfl⟩) hP hS (fun H locs hP hS => ?_)
    refine lv_if_eq (tgt := 44) hx hb dX5_captures_37 (by decide) (fun c_37 => ?_) (fun c_37 => ?_)
    · skip
      have c_37 := bI_0.mp c_37
      refine lv_iconst (v := 0) hx hb dX5_captures_44 (by decide) ?_
      refine vx_ret (mc := 1) (ms := 6) ?_
      refine W.widen (k := 1) (n := 6) (Nat.le_of_ble_eq_true rfl) (Nat.le_of_ble_eq_true rfl) ?_
      exact W.zret (v := 0) hx hb hr rfl (fun t ht hW => ⟨⟨_, (), rfl, ⟨fr, hfr, rfl, bI_f (by rw [c_12, c_37]; rfl)⟩, trivial⟩, hS.F ht⟩) hS.2.2 dX5_captures_45
    · skip
      have c_37 := bI_1.mp c_37
      refine lv_iconst (v := 1) hx hb dX5_captures_40 (by decide) ?_
      refine lv_goto (tgt := 45) hx hb dX5_captures_41 (by decide) ?_
      refine vx_ret (mc := 1) (ms := 6) ?_
      refine W.widen (k := 1) (n := 6) (Nat.le_of_ble_eq_true rfl) (Nat.le_of_ble_eq_true rfl) ?_
      exact W.zret (v := 1) hx hb hr rfl (fun t ht hW => ⟨⟨_, (), rfl, ⟨fr, hfr, rfl, bI_t (by rw [c_12, c_37]; rfl)⟩, trivial⟩, hS.F ht⟩) hS.2.2 dX5_captures_45
end
section
/-! worths, ranks, endings: the calls -/
set_option maxHeartbeats 4000000 in
set_option maxRecDepth 100000 in
theorem c_X5_worth (l : Launch) (hl0 : l.stackTraces = false) (dC : Nat → ClassId) (dI : Nat → Nat → Nat) (cyI cyJ : ClassId) (tb ax a0 a1 ae aw at_ ao aq : Nat) (mk wn cnt lo lq : Int32) (wf : Nat → Int32) (k kk tn own oth mm : Nat) (hsd : zSd tn a0 a1 ao aq) (hO : zok k own) (hQ : zok k oth) (hk1 : 1 ≤ k) (hkk : kk ≤ 60) (htb : zTb kk wf) (hmk : zmk mk mm) (hmm : mm ≤ 4) (v : Int32) (hnd : [ax, ao, aq, ae, at_].Nodup) : vx_Met l yX5_worth wsX5_worth ({ frames := 30, cells := 1, slots := 6, locals := 700 }) (zPc [.ref ax, .int v] (dC, dI) vwCl [(cyI, .int), (cyJ, .long)] [(ax, .inr (2, [.ref a0, .ref a1, .ref ae, .ref aw, .int (nI k), .int (nI tn), .int mk, .int wn, .int cnt])), (ao, .inr (1, [.long (lN own), .int lo])), (aq, .inr (1, [.long (lN oth), .int lq])), (ae, .inr (0, [.ref at_, .int (nI kk)])), (at_, .inl (cyI, 13500, .inl wf))] (fun U => zG tb (zA [ax, ao, aq, ae, at_]) U U.heap)) (va_Qi (fun (r : Int32) (u : Nat × (Nat → Int32)) => ∃ d, d ≤ 3 ∧ v = nI d ∧ zTb u.1 u.2 ∧ u.1 ≤ 60 ∧ r = (if tn = 0 then zWT k tn wn mk mm d own oth else 1000000000 - zWT k tn wn mk mm d own oth)) (fun (u : Nat × (Nat → Int32)) t => va_P (dC, dI) vwCl ([(ax, .inr (2, [.ref a0, .ref a1, .ref ae, .ref aw, .int (nI k), .int (nI tn), .int mk, .int wn, .int cnt])), (ao, .inr (1, [.long (lN own), .int lo])), (aq, .inr (1, [.long (lN oth), .int lq])), (ae, .inr (0, [.ref at_, .int (nI u.1)])), (at_, .inl (cyI, 13500, .inl u.2))]) t.heap) (zA [ax, ao, aq, ae, at_])) (vx_X (fun (_ : Unit) => True) (fun (E : String) _ _ => E = zIA ∧ ¬ (0 ≤ v ∧ v ≤ 3)) zF) 1 6 (zA [ax, ao, aq, ae, at_]) := by
  refine vx_ofW (cc := cX5_worth) (maxL := 3) (ret := (some .int)) (by decide) rfl ?_
  intro p e s m args below meth c s₁ B hml hnt hv
  obtain ⟨rfl, hP, hK, hX⟩ := hv
  have hx := B.exec
  have hb := B.bytes
  have hr := B.returns
  have hts := atoms_spec (ws := wsX5_worth) B.pre
  have hown : s.vm.findClass RX5 = some m.cls := findClass_of_methodNamed B.named
  have hlocks := B.notSynchronized
  have hinX5 : ∀ w ∈ wsX50, w ∈ wsX5_worth := by decide +kernel
  have hl := lv_entry ([.ref ax, .int v]) (n := 3) (Nat.le_of_ble_eq_true rfl)
  rw [lg_entry_eq]
  generalize (lg_sl ([.ref ax, .int v]) ++ List.replicate (3 - (lg_sl ([.ref ax, .int v])).length) Slot.unset).toArray = ls at hl ⊢
  have hl : lv_has ls 3 [(0, .ref ax), (1, .int v)] := hl
  have hS : va_S zF s.heap s.heap [] := va_S.rf
  have hl9 := hl.1.trans hml.symm
  have hY : zY zF s s.heap := (hX.2).narrow zF_A
  have hDD : zD (zA [ax, ao, aq, ae, at_]) [ax, ao, aq, ae, at_] := ⟨hnd, fun _ h => h⟩
  have htn := zSd_le hsd
  refine lv_iload_n hx hb dX5_worth_0 rfl (lv_at hl 1 rfl) ?_
  refine lv_iconst (v := 0) hx hb dX5_worth_1 (by decide) ?_
  refine lv_iconst (v := 3) hx hb dX5_worth_2 (by decide) ?_
  refine zth_v (m1 := 1) (s1 := 6) (vx_runS (As := [.int v, .int 0, .int 3]) (rest := []) ⟨hx, hb, hml, hown, hts⟩ (c_X5_refuseOutside l hl0 v 0 3) (va_cwS 3 hts gX5_worth_X5_refuseOutside rfl rfl rfl (by decide +kernel) ⟨(show 6 + 1 ≤ 30 by omega), (show 8 + (3 + 11) + 90 ≤ 700 by omega)⟩) (zPx zB_Y (zY_at hY hS zF_A)) rfl rfl hl.1 rfl (lv_room (Nat.le_of_ble_eq_true rfl)) dX5_worth_3 ⟨Nat.le_of_ble_eq_true rfl, Nat.le_of_ble_eq_true rfl⟩) hP hS (fun x hx9 => (hnt x hx9).elim) hlocks (fun hN t ht => ⟨(), trivial, ⟨rfl, hN⟩, ht⟩) (Nat.le_of_ble_eq_true rfl) (Nat.le_of_ble_eq_true rfl) (fun H locs hG_3 hP hS => ?_)
  obtain ⟨d, hd, rfl⟩ := (zin_iff (n := 3) (by decide)).mp hG_3
  have hS : va_S (zA [ax, ao, aq, ae, at_]) s.heap H locs := zS_w hS
  refine lv_aload_n hx hb dX5_worth_6 rfl (lv_at hl 0 rfl) ?_
  refine lv_iload_n hx hb dX5_worth_7 rfl (lv_at hl 1 rfl) ?_
  refine zrw_i (w1 := fun u : Nat × (Nat → Int32) => [(ax, .inr (2, [.ref a0, .ref a1, .ref ae, .ref aw, .int (nI k), .int (nI tn), .int mk, .int wn, .int cnt])), (ao, .inr (1, [.long (lN own), .int lo])), (aq, .inr (1, [.long (lN oth), .int lq])), (ae, .inr (0, [.ref at_, .int (nI u.1)])), (at_, .inl (cyI, 13500, .inl u.2))]) (al := [ax, ao, aq, ae, at_]) (va_runV (As := [.int (nI d)]) (rest := []) ⟨hx, hb, hml, hown, hts⟩ (c_X5_worthForTurn l dC dI cyI cyJ tb ax a0 a1 ae aw at_ ao aq mk wn cnt lo lq wf k kk tn own oth mm d hsd hO hQ hk1 hkk htb hmk hmm (by omega) hDD.1) (cwV 1 hts gX5_worth_X5_worthForTurn rfl rfl rfl (by decide +kernel) ⟨(show 20 + 1 ≤ 30 by omega), (show 8 + (6 + 11) + 600 ≤ 700 by omega)⟩) (zPc_V (ci := 2) (q0 := 0) zB_X hP hK rfl rfl [0, 1, 2, 3, 4] rfl (zX_at hX.1 hS (fun _ h => h))) rfl rfl hl.1 rfl (lv_room (Nat.le_of_ble_eq_true rfl)) dX5_worth_8 ⟨Nat.le_of_ble_eq_true rfl, Nat.le_of_ble_eq_true rfl⟩) hP hDD hS [0, 1, 2, 3, 4] rfl (fun _ => rfl) (fun r_8 u_8 H locs hw_8 hP hS => ?_)
  have hP : va_P (dC, dI) vwCl [(ax, .inr (2, [.ref a0, .ref a1, .ref ae, .ref aw, .int (nI k), .int (nI tn), .int mk, .int wn, .int cnt])), (ao, .inr (1, [.long (lN own), .int lo])), (aq, .inr (1, [.long (lN oth), .int lq])), (ae, .inr (0, [.ref at_, .int (nI u_8.1)])), (at_, .inl (cyI, 13500, .inl u_8.2))] H := hP
  refine lv_istore_n (lv' := [(2, .int r_8), (0, .ref ax), (1, .int (nI d))]) hx hb dX5_worth_11 rfl hl (by decide) rfl (fun ls hl => ?_)
  refine lv_aload_n hx hb dX5_worth_12 rfl (lv_at hl 1 rfl) ?_
  refine va_get (D := (dC, dI)) (ci := 2) (v := .int (nI tn)) (C := RX5) (T := TX5) (N := 9) hx hb hts hinX5 hown hK hP 0 rfl rfl 5 (by decide) (hts (.fieldLink RX5 59 "RoyalUrTable" "turn" "I") (List.mem_of_getElem? (i := 1) rfl)) (fun _ h9 => h9) rfl dX5_worth_13 ?_
  refine lv_if_ne (tgt := 23) hx hb dX5_worth_16 (by decide) (fun c_16 => ?_) (fun c_16 => ?_)
  · skip
    have c_16 : ¬ tn = 0 := fun h9 => c_16 ((nI_eq (a := tn) (b := 0) (by omega) (by omega)).mpr h9)
    refine lv_ldc (v := 1000000000) hx hb hown (hts (.constant RX5 105 (1000000000)) (List.mem_of_getElem? (i := 2) rfl)) dX5_worth_23 ?_
    refine lv_iload_n hx hb dX5_worth_25 rfl (lv_at hl 0 rfl) ?_
    refine lv_isub hx hb dX5_worth_26 ?_
    refine vx_ret (mc := 1) (ms := 6) ?_
    refine W.widen (k := 1) (n := 6) (Nat.le_of_ble_eq_true rfl) (Nat.le_of_ble_eq_true rfl) ?_
    exact W.iret (v := 1000000000 - r_8) hx hb hr (fun t ht hW => ⟨⟨_, u_8, rfl, ⟨d, hd, rfl, hw_8.2.1, hw_8.2.2, (by rw [if_neg c_16, hw_8.1])⟩, zh ht hP⟩, hS.F ht⟩) hS.2.2 dX5_worth_27
  · skip
    have c_16 : tn = 0 := (nI_eq (a := tn) (b := 0) (by omega) (by omega)).mp c_16
    refine lv_iload_n hx hb dX5_worth_19 rfl (lv_at hl 0 rfl) ?_
    refine lv_goto (tgt := 27) hx hb dX5_worth_20 (by decide) ?_
    refine vx_ret (mc := 1) (ms := 6) ?_
    refine W.widen (k := 1) (n := 6) (Nat.le_of_ble_eq_true rfl) (Nat.le_of_ble_eq_true rfl) ?_
    exact W.iret (v := r_8) hx hb hr (fun t ht hW => ⟨⟨_, u_8, rfl, ⟨d, hd, rfl, hw_8.2.1, hw_8.2.2, (by rw [if_pos c_16, hw_8.1])⟩, zh ht hP⟩, hS.F ht⟩) hS.2.2 dX5_worth_27

set_option maxHeartbeats 4000000 in
set_option maxRecDepth 100000 in
theorem c_X5_ranked (l : Launch) (hl0 : l.stackTraces = false) (dC : Nat → ClassId) (dI : Nat → Nat → Nat) (cyI cyJ : ClassId) (tb ax a0 a1 ae aw at_ ao aq : Nat) (mk wn cnt lo lq : Int32) (wf wb : Nat → Int32) (k kk tn own oth mm : Nat) (hsd : zSd tn a0 a1 ao aq) (hO : zok k own) (hQ : zok k oth) (hk1 : 1 ≤ k) (hkk : kk ≤ 60) (htb : zTb kk wf) (hmk : zmk mk mm) (hmm : mm ≤ 4) (v w9 : Int32) (hnd : [ax, ao, aq, ae, at_, aw].Nodup) : vx_Met l yX5_ranked wsX5_ranked ({ frames := 30, cells := 2, slots := 12, locals := 700 }) (zPc [.ref ax, .int v, .int w9] (dC, dI) vwCl [(cyI, .int), (cyJ, .long)] [(ax, .inr (2, [.ref a0, .ref a1, .ref ae, .ref aw, .int (nI k), .int (nI tn), .int mk, .int wn, .int cnt])), (ao, .inr (1, [.long (lN own), .int lo])), (aq, .inr (1, [.long (lN oth), .int lq])), (ae, .inr (0, [.ref at_, .int (nI kk)])), (at_, .inl (cyI, 13500, .inl wf)), (aw, .inl (cyI, 15, .inl wb))] (fun U => zG tb (zA [ax, ao, aq, ae, at_, aw]) U U.heap)) (va_Qi (fun (r : Int32) (u : Nat × (Nat → Int32) × (Nat → Int32)) => ∃ d, d ≤ 3 ∧ v = nI d ∧ 0 ≤ w9 ∧ zTb u.1 u.2.1 ∧ u.1 ≤ 60 ∧ r = (if w9 < nI (zNum own oth mm 15) then zRk (zWB k d own oth mm) w9 0 15 else -1)) (fun (u : Nat × (Nat → Int32) × (Nat → Int32)) t => va_P (dC, dI) vwCl ([(ax, .inr (2, [.ref a0, .ref a1, .ref ae, .ref aw, .int (nI k), .int (nI tn), .int mk, .int wn, .int cnt])), (ao, .inr (1, [.long (lN own), .int lo])), (aq, .inr (1, [.long (lN oth), .int lq])), (ae, .inr (0, [.ref at_, .int (nI u.1)])), (at_, .inl (cyI, 13500, .inl u.2.1)), (aw, .inl (cyI, 15, .inl u.2.2))]) t.heap) (zA [ax, ao, aq, ae, at_, aw])) (vx_X (fun (_ : Unit) => True) (fun (E : String) _ _ => E = zIA ∧ ¬ ((0 ≤ v ∧ v ≤ 3) ∧ 0 ≤ w9)) zF) 2 12 (zA [ax, ao, aq, ae, at_, aw]) := by
  refine vx_ofW (cc := cX5_ranked) (maxL := 5) (ret := (some .int)) (by decide) rfl ?_
  intro p e s m args below meth c s₁ B hml hnt hv
  obtain ⟨rfl, hP, hK, hX⟩ := hv
  have hx := B.exec
  have hb := B.bytes
  have hr := B.returns
  have hts := atoms_spec (ws := wsX5_ranked) B.pre
  have hown : s.vm.findClass RX5 = some m.cls := findClass_of_methodNamed B.named
  have hlocks := B.notSynchronized
  have hinX5 : ∀ w ∈ wsX50, w ∈ wsX5_ranked := by decide +kernel
  have hl := lv_entry ([.ref ax, .int v, .int w9]) (n := 5) (Nat.le_of_ble_eq_true rfl)
  rw [lg_entry_eq]
  generalize (lg_sl ([.ref ax, .int v, .int w9]) ++ List.replicate (5 - (lg_sl ([.ref ax, .int v, .int w9])).length) Slot.unset).toArray = ls at hl ⊢
  have hl : lv_has ls 5 [(0, .ref ax), (1, .int v), (2, .int w9)] := hl
  have hS : va_S zF s.heap s.heap [] := va_S.rf
  have hl9 := hl.1.trans hml.symm
  have hY : zY zF s s.heap := (hX.2).narrow zF_A
  have hDD : zD (zA [ax, ao, aq, ae, at_, aw]) [ax, ao, aq, ae, at_, aw] := ⟨hnd, fun _ h => h⟩
  have htn := zSd_le hsd
  refine lv_iload_n hx hb dX5_ranked_0 rfl (lv_at hl 1 rfl) ?_
  refine lv_iconst (v := 0) hx hb dX5_ranked_1 (by decide) ?_
  refine lv_iconst (v := 3) hx hb dX5_ranked_2 (by decide) ?_
  refine zth_v (m1 := 1) (s1 := 6) (vx_runS (As := [.int v, .int 0, .int 3]) (rest := []) ⟨hx, hb, hml, hown, hts⟩ (c_X5_refuseOutside l hl0 v 0 3) (va_cwS 3 hts gX5_ranked_X5_refuseOutside rfl rfl rfl (by decide +kernel) ⟨(show 6 + 1 ≤ 30 by omega), (show 8 + (3 + 11) + 90 ≤ 700 by omega)⟩) (zPx zB_Y (zY_at hY hS zF_A)) rfl rfl hl.1 rfl (lv_room (Nat.le_of_ble_eq_true rfl)) dX5_ranked_3 ⟨Nat.le_of_ble_eq_true rfl, Nat.le_of_ble_eq_true rfl⟩) hP hS (fun x hx9 => (hnt x hx9).elim) hlocks (fun hN t ht => ⟨(), trivial, ⟨rfl, fun h => hN h.1⟩, ht⟩) (Nat.le_of_ble_eq_true rfl) (Nat.le_of_ble_eq_true rfl) (fun H locs hG_3 hP hS => ?_)
  obtain ⟨d, hd, rfl⟩ := (zin_iff (n := 3) (by decide)).mp hG_3
  refine lv_iload_n hx hb dX5_ranked_6 rfl (lv_at hl 2 rfl) ?_
  refine lv_if_ge (tgt := 18) hx hb dX5_ranked_7 (by decide) (fun c_7 => ?_) (fun c_7 => ?_)
  · skip
    have hS : va_S (zA [ax, ao, aq, ae, at_, aw]) s.heap H locs := zS_w hS
    refine lv_iload_n hx hb dX5_ranked_18 rfl (lv_at hl 2 rfl) ?_
    refine lv_aload_n hx hb dX5_ranked_19 rfl (lv_at hl 0 rfl) ?_
    refine lv_aload_n hx hb dX5_ranked_20 rfl (lv_at hl 0 rfl) ?_
    refine va_get (D := (dC, dI)) (ci := 2) (v := .int mk) (C := RX5) (T := TX5) (N := 9) hx hb hts hinX5 hown hK hP 0 rfl rfl 6 (by decide) (hts (.fieldLink RX5 46 "RoyalUrTable" "marksTold" "I") (List.mem_of_getElem? (i := 3) rfl)) (fun _ h9 => h9) rfl dX5_ranked_21 ?_
    refine zro_i (va_runV (As := [.int mk]) (rest := [.int w9]) ⟨hx, hb, hml, hown, hts⟩ (c_X5_countMoves l dC dI cyI cyJ ax a0 a1 ae aw ao aq mk wn cnt lo lq k tn own oth hsd hO hQ mm mk hmk hmm) (cwV 1 hts gX5_ranked_X5_countMoves rfl rfl rfl (by decide +kernel) ⟨(show 2 + 1 ≤ 30 by omega), (show 8 + (8 + 11) + 48 ≤ 700 by omega)⟩) (zPc_V (ci := 2) (q0 := 0) zB_T hP hK rfl rfl [0, 1, 2] rfl (fun _ _ _ => trivial)) rfl rfl hl.1 rfl (lv_room (Nat.le_of_ble_eq_true rfl)) dX5_ranked_24 ⟨Nat.le_of_ble_eq_true rfl, Nat.le_of_ble_eq_true rfl⟩) hP hS (fun H locs hP hS => ?_)
    refine lv_icmp_lt (tgt := 32) hx hb dX5_ranked_27 (by decide) (fun c_27 => ?_) (fun c_27 => ?_)
    · skip
      refine lv_aload_n hx hb dX5_ranked_32 rfl (lv_at hl 0 rfl) ?_
      refine lv_iload_n hx hb dX5_ranked_33 rfl (lv_at hl 1 rfl) ?_
      refine zrw_v (w1 := fun u : Nat × (Nat → Int32) × (Nat → Int32) => [(ax, .inr (2, [.ref a0, .ref a1, .ref ae, .ref aw, .int (nI k), .int (nI tn), .int mk, .int wn, .int cnt])), (ao, .inr (1, [.long (lN own), .int lo])), (aq, .inr (1, [.long (lN oth), .int lq])), (ae, .inr (0, [.ref at_, .int (nI u.1)])), (at_, .inl (cyI, 13500, .inl u.2.1)), (aw, .inl (cyI, 15, .inl u.2.2))]) (al := [ax, ao, aq, ae, at_, aw]) (va_runV (As := [.int (nI d)]) (rest := []) ⟨hx, hb, hml, hown, hts⟩ (c_X5_noteWorthsBehind l dC dI cyI cyJ tb ax a0 a1 ae aw at_ ao aq mk wn cnt lo lq wf wb k kk tn own oth mm d hsd hO hQ hk1 hkk htb hmk hmm (by omega) hDD.1) (cwV 1 hts gX5_ranked_X5_noteWorthsBehind rfl rfl rfl (by decide +kernel) ⟨(show 20 + 1 ≤ 30 by omega), (show 8 + (8 + 11) + 600 ≤ 700 by omega)⟩) (zPc_V (ci := 2) (q0 := 0) zB_X hP hK rfl rfl [0, 1, 2, 3, 4, 5] rfl (zX_at hX.1 hS (fun _ h => h))) rfl rfl hl.1 rfl (lv_room (Nat.le_of_ble_eq_true rfl)) dX5_ranked_34 ⟨Nat.le_of_ble_eq_true rfl, Nat.le_of_ble_eq_true rfl⟩) hP hDD hS [0, 1, 2, 3, 4, 5] rfl (fun _ => rfl) (fun u_34 H locs hw_34 hP hS => ?_)
      have hP : va_P (dC, dI) vwCl [(ax, .inr (2, [.ref a0, .ref a1, .ref ae, .ref aw, .int (nI k), .int (nI tn), .int mk, .int wn, .int cnt])), (ao, .inr (1, [.long (lN own), .int lo])), (aq, .inr (1, [.long (lN oth), .int lq])), (ae, .inr (0, [.ref at_, .int (nI u_34.1)])), (at_, .inl (cyI, 13500, .inl u_34.2.1)), (aw, .inl (cyI, 15, .inl u_34.2.2))] H := hP
      refine lv_iconst (v := 0) hx hb dX5_ranked_37 (by decide) ?_
      refine lv_istore_n (lv' := [(3, .int 0), (0, .ref ax), (1, .int (nI d)), (2, .int w9)]) hx hb dX5_ranked_38 rfl hl (by decide) rfl (fun ls hl => ?_)
      generalize hQe : vx_MQ below _ _ _ _ _ _ _ = Q
      have lp : ∀ (n9 : Nat) (i : Nat) (j : Nat), i + j = 15 → zRk u_34.2.2 w9 0 15 = zRk u_34.2.2 w9 i j → 15 - i < n9 → ∀ (H : Heap) (locs : List Loc), va_P (dC, dI) vwCl [(ax, .inr (2, [.ref a0, .ref a1, .ref ae, .ref aw, .int (nI k), .int (nI tn), .int mk, .int wn, .int cnt])), (ao, .inr (1, [.long (lN own), .int lo])), (aq, .inr (1, [.long (lN oth), .int lq])), (ae, .inr (0, [.ref at_, .int (nI u_34.1)])), (at_, .inl (cyI, 13500, .inl u_34.2.1)), (aw, .inl (cyI, 15, .inl u_34.2.2))] H → va_S (zA [ax, ao, aq, ae, at_, aw]) s.heap H locs → ∀ ls : Array Slot, lv_has ls 5 [(3, .int (nI i)), (0, .ref ax), (1, .int (nI d)), (2, .int w9)] → W p l e (headSpec wsX5_ranked ({ frames := 30, cells := 2, slots := 12, locals := 700 })).room s m ([.ref ax, .int (nI d), .int w9] : List Value).toArray below meth c H locs (0 + 1) (0 + 6) Q (F0 m 39 ls []) := by
        intro n9
        induction n9 with
        | zero => intro i j hi2 hf hm9; exact absurd hm9 (Nat.not_lt_zero _)
        | succ n9 ih39 =>
          intro i j hi2 hf hm9 H locs hP hS ls hl
          refine lv_iload_n hx hb dX5_ranked_39 rfl (lv_at hl 0 rfl) ?_
          refine lv_aload_n hx hb dX5_ranked_40 rfl (lv_at hl 1 rfl) ?_
          refine va_get (D := (dC, dI)) (ci := 2) (v := .ref aw) (C := RX5) (T := TX5) (N := 9) hx hb hts hinX5 hown hK hP 0 rfl rfl 3 (by decide) (hts (.fieldLink RX5 28 "RoyalUrTable" "worthsBehind" "[I") (List.mem_of_getElem? (i := 4) rfl)) (fun _ h9 => h9) rfl dX5_ranked_41 ?_
          refine va_alen (v := 15) hx hb hK hP 5 0 rfl rfl rfl dX5_ranked_44 ?_
          refine lv_icmp_ge (tgt := 81) hx hb dX5_ranked_45 (by decide) (fun c_45 => ?_) (fun c_45 => ?_)
          · skip
            have c_45 : 15 ≤ i := (nI_leI (a := 15) (b := i) (by omega) (by omega)).mp c_45
            refine lv_iconst (v := -1) hx hb dX5_ranked_81 (by decide) ?_
            subst hQe
            refine vx_ret (mc := 2) (ms := 12) ?_
            refine W.widen (k := 2) (n := 12) (Nat.le_of_ble_eq_true rfl) (Nat.le_of_ble_eq_true rfl) ?_
            exact W.iret (v := -1) hx hb hr (fun t ht hW => ⟨⟨_, u_34, rfl, ⟨d, hd, rfl, c_7, hw_34.1, hw_34.2.1, (by rw [if_pos c_27, ← zRk_congr hw_34.2.2 w9 15 0 (by omega), hf]; rw [show j = 0 by omega]; rfl)⟩, zh ht hP⟩, hS.F ht⟩) hS.2.2 dX5_ranked_82
          · skip
            have c_45 : ¬ 15 ≤ i := fun h9 => c_45 ((nI_leI (a := 15) (b := i) (by omega) (by omega)).mpr h9)
            refine lv_aload_n hx hb dX5_ranked_48 rfl (lv_at hl 1 rfl) ?_
            refine va_get (D := (dC, dI)) (ci := 2) (v := .ref aw) (C := RX5) (T := TX5) (N := 9) hx hb hts hinX5 hown hK hP 0 rfl rfl 3 (by decide) (hts (.fieldLink RX5 28 "RoyalUrTable" "worthsBehind" "[I") (List.mem_of_getElem? (i := 4) rfl)) (fun _ h9 => h9) rfl dX5_ranked_49 ?_
            refine lv_iload_n hx hb dX5_ranked_52 rfl (lv_at hl 0 rfl) ?_
            refine zi_iald hx hb hK hP 5 0 rfl rfl (j := i) rfl (by omega) (by decide) dX5_ranked_53 ?_
            refine lv_istore (lv' := [(4, .int (u_34.2.2 i)), (3, .int (nI i)), (0, .ref ax), (1, .int (nI d)), (2, .int w9)]) hx hb dX5_ranked_54 hl (by decide) rfl (fun ls hl => ?_)
            refine lv_iload hx hb dX5_ranked_56 (lv_at hl 0 rfl) ?_
            refine lv_iconst (v := -1) hx hb dX5_ranked_58 (by decide) ?_
            refine lv_icmp_eq (tgt := 75) hx hb dX5_ranked_59 (by decide) (fun c_59 => ?_) (fun c_59 => ?_)
            · skip
              refine lv_iinc (v := nI (i + 1)) (lv' := [(3, .int (nI (i + 1))), (4, .int (u_34.2.2 i)), (0, .ref ax), (1, .int (nI d)), (2, .int w9)]) hx hb dX5_ranked_75 hl (k := 1) rfl (nI_1 i) (by decide) rfl (fun ls hl => ?_)
              refine lv_goto (tgt := 39) hx hb dX5_ranked_78 (by decide) ?_
              exact ih39 (i + 1) (j - 1) (by omega) (by rw [hf]; obtain ⟨j9, rfl⟩ : ∃ j9, j = j9 + 1 := ⟨j - 1, by omega⟩; rw [zRk_s, if_neg (fun h => h.1 c_59)]; rfl) (by omega) _ _ hP hS _ (lv_sub hl [0, 2, 3, 4] rfl)
            · skip
              refine lv_aload_n hx hb dX5_ranked_62 rfl (lv_at hl 2 rfl) ?_
              refine lv_iload_n hx hb dX5_ranked_63 rfl (lv_at hl 1 rfl) ?_
              refine lv_iload hx hb dX5_ranked_64 (lv_at hl 0 rfl) ?_
              refine zro_i (va_runV (As := [.int (nI i), .int (u_34.2.2 i)]) (rest := []) ⟨hx, hb, hml, hown, hts⟩ (c_X5_countBetter l dC dI cyI cyJ ax a0 a1 ae aw (nI k) (nI tn) mk wn cnt u_34.2.2 i (by omega) (u_34.2.2 i)) (cwV 2 hts gX5_ranked_X5_countBetter rfl rfl rfl (by decide +kernel) ⟨(show 0 + 1 ≤ 30 by omega), (show 8 + (5 + 11) + 0 ≤ 700 by omega)⟩) (zPc_V (ci := 2) (q0 := 0) zB_T hP hK rfl rfl [0, 5] rfl (fun _ _ _ => trivial)) rfl rfl hl.1 rfl (lv_room (Nat.le_of_ble_eq_true rfl)) dX5_ranked_66 ⟨Nat.le_of_ble_eq_true rfl, Nat.le_of_ble_eq_true rfl⟩) hP hS (fun H locs hP hS => ?_)
              refine lv_iload_n hx hb dX5_ranked_69 rfl (lv_at hl 4 rfl) ?_
              refine lv_icmp_ne (tgt := 75) hx hb dX5_ranked_70 (by decide) (fun c_70 => ?_) (fun c_70 => ?_)
              · skip
                refine lv_iinc (v := nI (i + 1)) (lv' := [(3, .int (nI (i + 1))), (4, .int (u_34.2.2 i)), (0, .ref ax), (1, .int (nI d)), (2, .int w9)]) hx hb dX5_ranked_75 hl (k := 1) rfl (nI_1 i) (by decide) rfl (fun ls hl => ?_)
                refine lv_goto (tgt := 39) hx hb dX5_ranked_78 (by decide) ?_
                exact ih39 (i + 1) (j - 1) (by omega) (by rw [hf]; obtain ⟨j9, rfl⟩ : ∃ j9, j = j9 + 1 := ⟨j - 1, by omega⟩; rw [zRk_s, if_neg (fun h => c_70 h.2)]; rfl) (by omega) _ _ hP hS _ (lv_sub hl [0, 2, 3, 4] rfl)
              · skip
                refine lv_iload_n hx hb dX5_ranked_73 rfl (lv_at hl 1 rfl) ?_
                subst hQe
                refine vx_ret (mc := 2) (ms := 12) ?_
                refine W.widen (k := 2) (n := 12) (Nat.le_of_ble_eq_true rfl) (Nat.le_of_ble_eq_true rfl) ?_
                exact W.iret (v := nI i) hx hb hr (fun t ht hW => ⟨⟨_, u_34, rfl, ⟨d, hd, rfl, c_7, hw_34.1, hw_34.2.1, (by rw [if_pos c_27, ← zRk_congr hw_34.2.2 w9 15 0 (by omega), hf]; obtain ⟨j9, rfl⟩ : ∃ j9, j = j9 + 1 := ⟨j - 1, by omega⟩; rw [zRk_s, if_pos ⟨c_59, c_70⟩])⟩, zh ht hP⟩, hS.F ht⟩) hS.2.2 dX5_ranked_74
      exact lp 16 0 15 (by omega) rfl (by omega) _ _ hP hS _ (lv_sub hl [0, 1, 2, 3] rfl)
    · skip
      refine lv_iconst (v := -1) hx hb dX5_ranked_30 (by decide) ?_
      refine vx_ret (mc := 2) (ms := 12) ?_
      refine W.widen (k := 2) (n := 12) (Nat.le_of_ble_eq_true rfl) (Nat.le_of_ble_eq_true rfl) ?_
      exact W.iret (v := -1) hx hb hr (fun t ht hW => ⟨⟨_, (kk, wf, wb), rfl, ⟨d, hd, rfl, c_7, htb, hkk, (by rw [if_neg c_27])⟩, zh ht hP⟩, hS.F ht⟩) hS.2.2 dX5_ranked_31
  · skip
    exact vx_throw0 (cls := "java/lang/IllegalArgumentException") (names := ["java/lang/RuntimeException", "java/lang/Exception"]) (ik := 108) (ic := 110) (A := zF) hx hb hl0 hown (by decide +kernel) (by decide +kernel) (hts (.classLink RX5 108 "java/lang/IllegalArgumentException") (List.mem_of_getElem? (i := 1) rfl)) (hts (.initialized "java/lang/IllegalArgumentException") (List.mem_of_getElem? (i := 2) rfl)) (vx_hat (fun w h => hts w (List.mem_cons_of_mem _ (List.mem_append_right _ h))) (by decide +kernel) (vx_c (va_Nw.use rfl hY.2.2.1) (vx_c (va_Nw.use rfl hY.2.2.2.1) (vx_c (va_Nw.use rfl hY.2.2.2.2.1) (vx_c (va_Nw.use rfl hY.2.2.2.2.2.1) vx_n))))) (by decide +kernel) hY.1 hY.2.1 hS hl9 dX5_ranked_10 dX5_ranked_13 dX5_ranked_14 dX5_ranked_17 (fun x hx9 => (hnt x hx9).elim) (Nat.le_of_ble_eq_true rfl) (Nat.le_of_ble_eq_true rfl) (Nat.le_of_ble_eq_true rfl) (Nat.le_of_ble_eq_true rfl) hlocks (fun t hv hz hk => ⟨(), trivial, ⟨rfl, fun h => c_7 h.2⟩, zthx hS hz hk⟩) (fun z hz => (hS.2.2 z hz).elim) (Nat.le_of_ble_eq_true rfl) (Nat.le_of_ble_eq_true rfl)

set_option maxHeartbeats 4000000 in
set_option maxRecDepth 100000 in
theorem c_X5_ending (l : Launch) (hl0 : l.stackTraces = false) (dC : Nat → ClassId) (dI : Nat → Nat → Nat) (cyI cyJ : ClassId) (tb ax a0 a1 ae aw at_ : Nat) (pI tI mk wn cnt : Int32) (wf : Nat → Int32) (kk : Nat) (hkk : kk ≤ 60) (htb : zTb kk wf) (v1 v2 v3 : Int32) (hnd : [ax, ae, at_].Nodup) : vx_Met l yX5_ending wsX5_ending ({ frames := 8, cells := 4, slots := 24, locals := 152 }) (zPc [.ref ax, .int v1, .int v2, .int v3] (dC, dI) vwCl [(cyI, .int), (cyJ, .long)] [(ax, .inr (2, [.ref a0, .ref a1, .ref ae, .ref aw, .int pI, .int tI, .int mk, .int wn, .int cnt])), (ae, .inr (0, [.ref at_, .int (nI kk)])), (at_, .inl (cyI, 13500, .inl wf))] (fun U => zG tb (zA [ax, ae, at_]) U U.heap)) (va_Qi (fun (r : Int32) (u : Nat × (Nat → Int32)) => ∃ a b rr : Nat, a ≤ 14 ∧ b ≤ 14 ∧ rr ≤ 60 ∧ v1 = nI a ∧ v2 = nI b ∧ v3 = nI rr ∧ ¬ (a = b ∧ zshr a = true) ∧ zTb u.1 u.2 ∧ u.1 ≤ 60 ∧ r = nI (zE rr a b)) (fun (u : Nat × (Nat → Int32)) t => va_P (dC, dI) vwCl ([(ax, .inr (2, [.ref a0, .ref a1, .ref ae, .ref aw, .int pI, .int tI, .int mk, .int wn, .int cnt])), (ae, .inr (0, [.ref at_, .int (nI u.1)])), (at_, .inl (cyI, 13500, .inl u.2))]) t.heap) (zA [ax, ae, at_])) (vx_X (fun (_ : Unit) => True) (fun (E : String) _ _ => E = zIA ∧ ¬ (zEnd v1 v2 ∧ (0 ≤ v3 ∧ v3 ≤ 60))) zF) 4 24 (zA [ax, ae, at_]) := by
  refine vx_ofW (cc := cX5_ending) (maxL := 4) (ret := (some .int)) (by decide) rfl ?_
  intro p e s m args below meth c s₁ B hml hnt hv
  obtain ⟨rfl, hP, hK, hX⟩ := hv
  have hx := B.exec
  have hb := B.bytes
  have hr := B.returns
  have hts := atoms_spec (ws := wsX5_ending) B.pre
  have hown : s.vm.findClass RX5 = some m.cls := findClass_of_methodNamed B.named
  have hlocks := B.notSynchronized
  have hinX5 : ∀ w ∈ wsX50, w ∈ wsX5_ending := by decide +kernel
  have hl := lv_entry ([.ref ax, .int v1, .int v2, .int v3]) (n := 4) (Nat.le_of_ble_eq_true rfl)
  rw [lg_entry_eq]
  generalize (lg_sl ([.ref ax, .int v1, .int v2, .int v3]) ++ List.replicate (4 - (lg_sl ([.ref ax, .int v1, .int v2, .int v3])).length) Slot.unset).toArray = ls at hl ⊢
  have hl : lv_has ls 4 [(0, .ref ax), (1, .int v1), (2, .int v2), (3, .int v3)] := hl
  have hS : va_S zF s.heap s.heap [] := va_S.rf
  have hl9 := hl.1.trans hml.symm
  have hY : zY zF s s.heap := (hX.2).narrow zF_A
  have hDD : zD (zA [ax, ae, at_]) [ax, ae, at_] := ⟨hnd, fun _ h => h⟩
  refine lv_iload_n hx hb dX5_ending_0 rfl (lv_at hl 1 rfl) ?_
  refine lv_iload_n hx hb dX5_ending_1 rfl (lv_at hl 2 rfl) ?_
  refine zth_v (m1 := 3) (s1 := 18) (vx_runS (As := [.int v1, .int v2]) (rest := []) ⟨hx, hb, hml, hown, hts⟩ (c_X5_refuseEnding l hl0 v1 v2) (va_cwS 2 hts gX5_ending_X5_refuseEnding rfl rfl rfl (by decide +kernel) ⟨Nat.le_of_ble_eq_true rfl, Nat.le_of_ble_eq_true rfl⟩) (zPx zB_Y (zY_at hY hS zF_A)) rfl rfl hl.1 rfl (lv_room (Nat.le_of_ble_eq_true rfl)) dX5_ending_2 ⟨Nat.le_of_ble_eq_true rfl, Nat.le_of_ble_eq_true rfl⟩) hP hS (fun x hx9 => (hnt x hx9).elim) hlocks (fun hN t ht => ⟨(), trivial, ⟨rfl, fun h => hN h.1⟩, ht⟩) (Nat.le_of_ble_eq_true rfl) (Nat.le_of_ble_eq_true rfl) (fun H locs hG_2 hP hS => ?_)
  obtain ⟨a, b9, ha, hb9, rfl, rfl, hne⟩ := hG_2
  refine lv_iload_n hx hb dX5_ending_5 rfl (lv_at hl 3 rfl) ?_
  refine lv_iconst (v := 0) hx hb dX5_ending_6 (by decide) ?_
  refine lv_bipush (v := 60) hx hb dX5_ending_7 (by decide) ?_
  refine zth_v (m1 := 1) (s1 := 6) (vx_runS (As := [.int v3, .int 0, .int 60]) (rest := []) ⟨hx, hb, hml, hown, hts⟩ (c_X5_refuseOutside l hl0 v3 0 60) (va_cwS 3 hts gX5_ending_X5_refuseOutside rfl rfl rfl (by decide +kernel) ⟨Nat.le_of_ble_eq_true rfl, Nat.le_of_ble_eq_true rfl⟩) (zPx zB_Y (zY_at hY hS zF_A)) rfl rfl hl.1 rfl (lv_room (Nat.le_of_ble_eq_true rfl)) dX5_ending_9 ⟨Nat.le_of_ble_eq_true rfl, Nat.le_of_ble_eq_true rfl⟩) hP hS (fun x hx9 => (hnt x hx9).elim) hlocks (fun hN t ht => ⟨(), trivial, ⟨rfl, fun h => hN h.2⟩, ht⟩) (Nat.le_of_ble_eq_true rfl) (Nat.le_of_ble_eq_true rfl) (fun H locs hG_9 hP hS => ?_)
  obtain ⟨rr, hrr, rfl⟩ := (zin_iff (n := 60) (by decide)).mp hG_9
  have hS : va_S (zA [ax, ae, at_]) s.heap H locs := zS_w hS
  refine lv_aload_n hx hb dX5_ending_12 rfl (lv_at hl 0 rfl) ?_
  refine va_get (D := (dC, dI)) (ci := 2) (v := .ref ae) (C := RX5) (T := TX5) (N := 9) hx hb hts hinX5 hown hK hP 0 rfl rfl 2 (by decide) (hts (.fieldLink RX5 22 "RoyalUrTable" "endings" "LRoyalUrTable$Endings;") (List.mem_of_getElem? (i := 1) rfl)) (fun _ h9 => h9) rfl dX5_ending_13 ?_
  refine lv_iload_n hx hb dX5_ending_16 rfl (lv_at hl 3 rfl) ?_
  refine zrw_v (w1 := fun u : Nat × (Nat → Int32) => [(ae, .inr (0, [.ref at_, .int (nI u.1)])), (at_, .inl (cyI, 13500, .inl u.2))]) (al := [ae, at_]) (va_runV (As := [.int (nI rr)]) (rest := []) ⟨hx, hb, hml, hown, hts⟩ (c_X1_fillUpTo l dC dI cyI cyJ tb ae at_ wf kk rr hkk (by omega) htb (z_nd hDD.1 [1, 2] (by decide) rfl)) (cwV 1 hts gX5_ending_X1_fillUpTo rfl rfl rfl (by decide +kernel) ⟨Nat.le_of_ble_eq_true rfl, Nat.le_of_ble_eq_true rfl⟩) (zPc_V (ci := 0) (q0 := 1) zB_X hP hK rfl rfl [1, 2] rfl (zX_at hX.1 hS (zA_pl (al := [ax, ae, at_]) (bl := [ae, at_]) [1, 2] rfl))) rfl rfl hl.1 rfl (lv_room (Nat.le_of_ble_eq_true rfl)) dX5_ending_17 ⟨Nat.le_of_ble_eq_true rfl, Nat.le_of_ble_eq_true rfl⟩) hP hDD hS [1, 2] rfl (fun _ => rfl) (fun u_17 H locs hw_17 hP hS => ?_)
  have hP : va_P (dC, dI) vwCl [(ax, .inr (2, [.ref a0, .ref a1, .ref ae, .ref aw, .int pI, .int tI, .int mk, .int wn, .int cnt])), (ae, .inr (0, [.ref at_, .int (nI u_17.1)])), (at_, .inl (cyI, 13500, .inl u_17.2))] H := hP
  refine lv_aload_n hx hb dX5_ending_20 rfl (lv_at hl 0 rfl) ?_
  refine va_get (D := (dC, dI)) (ci := 2) (v := .ref ae) (C := RX5) (T := TX5) (N := 9) hx hb hts hinX5 hown hK hP 0 rfl rfl 2 (by decide) (hts (.fieldLink RX5 22 "RoyalUrTable" "endings" "LRoyalUrTable$Endings;") (List.mem_of_getElem? (i := 1) rfl)) (fun _ h9 => h9) rfl dX5_ending_21 ?_
  refine lv_iload_n hx hb dX5_ending_24 rfl (lv_at hl 1 rfl) ?_
  refine lv_iload_n hx hb dX5_ending_25 rfl (lv_at hl 2 rfl) ?_
  refine lv_iload_n hx hb dX5_ending_26 rfl (lv_at hl 3 rfl) ?_
  refine zro_i (va_runV (As := [.int (nI a), .int (nI b9), .int (nI rr)]) (rest := []) ⟨hx, hb, hml, hown, hts⟩ (c_X1_held l dC dI cyI cyJ ae at_ (nI u_17.1) u_17.2 u_17.1 hw_17.2.2 hw_17.1 a b9 rr (by omega) (by omega) hw_17.2.1) (cwV 3 hts gX5_ending_X1_held rfl rfl rfl (by decide +kernel) ⟨Nat.le_of_ble_eq_true rfl, Nat.le_of_ble_eq_true rfl⟩) (zPc_V (ci := 0) (q0 := 1) zB_T hP hK rfl rfl [1, 2] rfl (fun _ _ _ => trivial)) rfl rfl hl.1 rfl (lv_room (Nat.le_of_ble_eq_true rfl)) dX5_ending_27 ⟨Nat.le_of_ble_eq_true rfl, Nat.le_of_ble_eq_true rfl⟩) hP hS (fun H locs hP hS => ?_)
  refine vx_ret (mc := 4) (ms := 24) ?_
  refine W.widen (k := 4) (n := 24) (Nat.le_of_ble_eq_true rfl) (Nat.le_of_ble_eq_true rfl) ?_
  exact W.iret (v := nI (zE rr a b9)) hx hb hr (fun t ht hW => ⟨⟨_, u_17, rfl, ⟨a, b9, rr, ha, hb9, hrr, rfl, rfl, rfl, hne, hw_17.1, hw_17.2.2, rfl⟩, zh ht hP⟩, hS.F ht⟩) hS.2.2 dX5_ending_30
end
section
theorem dL_cell_0 : decode cL_cell 0 = .ok (.iload_n 1, 1) := by decide +kernel
theorem dL_cell_1 : decode cL_cell 1 = .ok (.aload_n 0, 1) := by decide +kernel
theorem dL_cell_2 : decode cL_cell 2 = .ok (.arraylength, 1) := by decide +kernel
theorem dL_cell_3 : decode cL_cell 3 = .ok (.if_icmp .ge 9, 3) := by decide +kernel
theorem dL_cell_6 : decode cL_cell 6 = .ok (.aload_n 0, 1) := by decide +kernel
theorem dL_cell_7 : decode cL_cell 7 = .ok (.iload_n 1, 1) := by decide +kernel
theorem dL_cell_8 : decode cL_cell 8 = .ok (.iaload, 1) := by decide +kernel
theorem dL_cell_9 : decode cL_cell 9 = .ok (.goto 13, 3) := by decide +kernel
theorem dL_cell_12 : decode cL_cell 12 = .ok (.ldc 7, 2) := by decide +kernel
theorem dL_cell_14 : decode cL_cell 14 = .ok (.iload_n 1, 1) := by decide +kernel
theorem dL_cell_15 : decode cL_cell 15 = .ok (.bipush 29, 2) := by decide +kernel
theorem dL_cell_17 : decode cL_cell 17 = .ok (.iadd, 1) := by decide +kernel
theorem dL_cell_18 : decode cL_cell 18 = .ok (.imul, 1) := by decide +kernel
theorem dL_cell_19 : decode cL_cell 19 = .ok (.ldc 8, 2) := by decide +kernel
theorem dL_cell_21 : decode cL_cell 21 = .ok (.iadd, 1) := by decide +kernel
theorem dL_cell_22 : decode cL_cell 22 = .ok (.ireturn, 1) := by decide +kernel
theorem dL_low_0 : decode cL_low 0 = .ok (.iload_n 0, 1) := by decide +kernel
theorem dL_low_1 : decode cL_low 1 = .ok (.ldc 9, 2) := by decide +kernel
theorem dL_low_3 : decode cL_low 3 = .ok (.iand, 1) := by decide +kernel
theorem dL_low_4 : decode cL_low 4 = .ok (.iload_n 1, 1) := by decide +kernel
theorem dL_low_5 : decode cL_low 5 = .ok (.irem, 1) := by decide +kernel
theorem dL_low_6 : decode cL_low 6 = .ok (.ireturn, 1) := by decide +kernel
theorem dL_tells_0 : decode cL_tells 0 = .ok (.aload_n 0, 1) := by decide +kernel
theorem dL_tells_1 : decode cL_tells 1 = .ok (.iload_n 1, 1) := by decide +kernel
theorem dL_tells_2 : decode cL_tells 2 = .ok (.invokevirtual 10, 3) := by decide +kernel
theorem dL_tells_5 : decode cL_tells 5 = .ok (.ireturn, 1) := by decide +kernel
theorem dL_tells_6 : decode cL_tells 6 = .ok (.astore_n 2, 1) := by decide +kernel
theorem dL_tells_7 : decode cL_tells 7 = .ok (.bipush (-3), 2) := by decide +kernel
theorem dL_tells_9 : decode cL_tells 9 = .ok (.ireturn, 1) := by decide +kernel
theorem dL_moves_0 : decode cL_moves 0 = .ok (.aload_n 0, 1) := by decide +kernel
theorem dL_moves_1 : decode cL_moves 1 = .ok (.iload_n 1, 1) := by decide +kernel
theorem dL_moves_2 : decode cL_moves 2 = .ok (.invokevirtual 18, 3) := by decide +kernel
theorem dL_moves_5 : decode cL_moves 5 = .ok (.ireturn, 1) := by decide +kernel
theorem dL_moves_6 : decode cL_moves 6 = .ok (.astore_n 2, 1) := by decide +kernel
theorem dL_moves_7 : decode cL_moves 7 = .ok (.bipush (-3), 2) := by decide +kernel
theorem dL_moves_9 : decode cL_moves 9 = .ok (.ireturn, 1) := by decide +kernel
theorem dL_can_0 : decode cL_can 0 = .ok (.iload_n 2, 1) := by decide +kernel
theorem dL_can_1 : decode cL_can 1 = .ok (.iload_n 3, 1) := by decide +kernel
theorem dL_can_2 : decode cL_can 2 = .ok (.iadd, 1) := by decide +kernel
theorem dL_can_3 : decode cL_can 3 = .ok (.istore 4, 2) := by decide +kernel
theorem dL_can_5 : decode cL_can 5 = .ok (.iload_n 3, 1) := by decide +kernel
theorem dL_can_6 : decode cL_can 6 = .ok (.ifCond .le 44, 3) := by decide +kernel
theorem dL_can_9 : decode cL_can 9 = .ok (.iload 4, 2) := by decide +kernel
theorem dL_can_11 : decode cL_can 11 = .ok (.bipush 15, 2) := by decide +kernel
theorem dL_can_13 : decode cL_can 13 = .ok (.if_icmp .gt 37, 3) := by decide +kernel
theorem dL_can_16 : decode cL_can 16 = .ok (.aload_n 0, 1) := by decide +kernel
theorem dL_can_17 : decode cL_can 17 = .ok (.bipush 16, 2) := by decide +kernel
theorem dL_can_19 : decode cL_can 19 = .ok (.iload_n 1, 1) := by decide +kernel
theorem dL_can_20 : decode cL_can 20 = .ok (.imul, 1) := by decide +kernel
theorem dL_can_21 : decode cL_can 21 = .ok (.iload_n 2, 1) := by decide +kernel
theorem dL_can_22 : decode cL_can 22 = .ok (.iadd, 1) := by decide +kernel
theorem dL_can_23 : decode cL_can 23 = .ok (.iaload, 1) := by decide +kernel
theorem dL_can_24 : decode cL_can 24 = .ok (.ifCond .le 26, 3) := by decide +kernel
theorem dL_can_27 : decode cL_can 27 = .ok (.iload 4, 2) := by decide +kernel
theorem dL_can_29 : decode cL_can 29 = .ok (.bipush 15, 2) := by decide +kernel
theorem dL_can_31 : decode cL_can 31 = .ok (.if_icmp .eq 15, 3) := by decide +kernel
theorem dL_can_34 : decode cL_can 34 = .ok (.aload_n 0, 1) := by decide +kernel
theorem dL_can_35 : decode cL_can 35 = .ok (.bipush 16, 2) := by decide +kernel
theorem dL_can_37 : decode cL_can 37 = .ok (.iload_n 1, 1) := by decide +kernel
theorem dL_can_38 : decode cL_can 38 = .ok (.imul, 1) := by decide +kernel
theorem dL_can_39 : decode cL_can 39 = .ok (.iload 4, 2) := by decide +kernel
theorem dL_can_41 : decode cL_can 41 = .ok (.iadd, 1) := by decide +kernel
theorem dL_can_42 : decode cL_can 42 = .ok (.iaload, 1) := by decide +kernel
theorem dL_can_43 : decode cL_can 43 = .ok (.ifCond .ne 7, 3) := by decide +kernel
theorem dL_can_46 : decode cL_can 46 = .ok (.iconst 1, 1) := by decide +kernel
theorem dL_can_47 : decode cL_can 47 = .ok (.goto 4, 3) := by decide +kernel
theorem dL_can_50 : decode cL_can 50 = .ok (.iconst 0, 1) := by decide +kernel
theorem dL_can_51 : decode cL_can 51 = .ok (.istore 5, 2) := by decide +kernel
theorem dL_can_53 : decode cL_can 53 = .ok (.iload 5, 2) := by decide +kernel
theorem dL_can_55 : decode cL_can 55 = .ok (.ifCond .eq 28, 3) := by decide +kernel
theorem dL_can_58 : decode cL_can 58 = .ok (.iload 4, 2) := by decide +kernel
theorem dL_can_60 : decode cL_can 60 = .ok (.bipush 8, 2) := by decide +kernel
theorem dL_can_62 : decode cL_can 62 = .ok (.if_icmp .ne 17, 3) := by decide +kernel
theorem dL_can_65 : decode cL_can 65 = .ok (.aload_n 0, 1) := by decide +kernel
theorem dL_can_66 : decode cL_can 66 = .ok (.bipush 16, 2) := by decide +kernel
theorem dL_can_68 : decode cL_can 68 = .ok (.iconst 1, 1) := by decide +kernel
theorem dL_can_69 : decode cL_can 69 = .ok (.iload_n 1, 1) := by decide +kernel
theorem dL_can_70 : decode cL_can 70 = .ok (.isub, 1) := by decide +kernel
theorem dL_can_71 : decode cL_can 71 = .ok (.imul, 1) := by decide +kernel
theorem dL_can_72 : decode cL_can 72 = .ok (.bipush 8, 2) := by decide +kernel
theorem dL_can_74 : decode cL_can 74 = .ok (.iadd, 1) := by decide +kernel
theorem dL_can_75 : decode cL_can 75 = .ok (.iaload, 1) := by decide +kernel
theorem dL_can_76 : decode cL_can 76 = .ok (.ifCond .ne 7, 3) := by decide +kernel
theorem dL_can_79 : decode cL_can 79 = .ok (.iconst 1, 1) := by decide +kernel
theorem dL_can_80 : decode cL_can 80 = .ok (.goto 4, 3) := by decide +kernel
theorem dL_can_83 : decode cL_can 83 = .ok (.iconst 0, 1) := by decide +kernel
theorem dL_can_84 : decode cL_can 84 = .ok (.ireturn, 1) := by decide +kernel
theorem dL_takes_0 : decode cL_takes 0 = .ok (.iload_n 2, 1) := by decide +kernel
theorem dL_takes_1 : decode cL_takes 1 = .ok (.iconst 4, 1) := by decide +kernel
theorem dL_takes_2 : decode cL_takes 2 = .ok (.if_icmp .le 26, 3) := by decide +kernel
theorem dL_takes_5 : decode cL_takes 5 = .ok (.iload_n 2, 1) := by decide +kernel
theorem dL_takes_6 : decode cL_takes 6 = .ok (.bipush 13, 2) := by decide +kernel
theorem dL_takes_8 : decode cL_takes 8 = .ok (.if_icmp .ge 20, 3) := by decide +kernel
theorem dL_takes_11 : decode cL_takes 11 = .ok (.aload_n 0, 1) := by decide +kernel
theorem dL_takes_12 : decode cL_takes 12 = .ok (.bipush 16, 2) := by decide +kernel
theorem dL_takes_14 : decode cL_takes 14 = .ok (.iconst 1, 1) := by decide +kernel
theorem dL_takes_15 : decode cL_takes 15 = .ok (.iload_n 1, 1) := by decide +kernel
theorem dL_takes_16 : decode cL_takes 16 = .ok (.isub, 1) := by decide +kernel
theorem dL_takes_17 : decode cL_takes 17 = .ok (.imul, 1) := by decide +kernel
theorem dL_takes_18 : decode cL_takes 18 = .ok (.iload_n 2, 1) := by decide +kernel
theorem dL_takes_19 : decode cL_takes 19 = .ok (.iadd, 1) := by decide +kernel
theorem dL_takes_20 : decode cL_takes 20 = .ok (.iaload, 1) := by decide +kernel
theorem dL_takes_21 : decode cL_takes 21 = .ok (.ifCond .le 7, 3) := by decide +kernel
theorem dL_takes_24 : decode cL_takes 24 = .ok (.iconst 1, 1) := by decide +kernel
theorem dL_takes_25 : decode cL_takes 25 = .ok (.goto 4, 3) := by decide +kernel
theorem dL_takes_28 : decode cL_takes 28 = .ok (.iconst 0, 1) := by decide +kernel
theorem dL_takes_29 : decode cL_takes 29 = .ok (.ireturn, 1) := by decide +kernel
theorem dL_shift_0 : decode cL_shift 0 = .ok (.iload_n 2, 1) := by decide +kernel
theorem dL_shift_1 : decode cL_shift 1 = .ok (.iload_n 3, 1) := by decide +kernel
theorem dL_shift_2 : decode cL_shift 2 = .ok (.iadd, 1) := by decide +kernel
theorem dL_shift_3 : decode cL_shift 3 = .ok (.istore 4, 2) := by decide +kernel
theorem dL_shift_5 : decode cL_shift 5 = .ok (.aload_n 0, 1) := by decide +kernel
theorem dL_shift_6 : decode cL_shift 6 = .ok (.iload_n 1, 1) := by decide +kernel
theorem dL_shift_7 : decode cL_shift 7 = .ok (.iload 4, 2) := by decide +kernel
theorem dL_shift_9 : decode cL_shift 9 = .ok (.invokestatic 21, 3) := by decide +kernel
theorem dL_shift_12 : decode cL_shift 12 = .ok (.ifCond .eq 30, 3) := by decide +kernel
theorem dL_shift_15 : decode cL_shift 15 = .ok (.aload_n 0, 1) := by decide +kernel
theorem dL_shift_16 : decode cL_shift 16 = .ok (.bipush 16, 2) := by decide +kernel
theorem dL_shift_18 : decode cL_shift 18 = .ok (.iconst 1, 1) := by decide +kernel
theorem dL_shift_19 : decode cL_shift 19 = .ok (.iload_n 1, 1) := by decide +kernel
theorem dL_shift_20 : decode cL_shift 20 = .ok (.isub, 1) := by decide +kernel
theorem dL_shift_21 : decode cL_shift 21 = .ok (.imul, 1) := by decide +kernel
theorem dL_shift_22 : decode cL_shift 22 = .ok (.iload 4, 2) := by decide +kernel
theorem dL_shift_24 : decode cL_shift 24 = .ok (.iadd, 1) := by decide +kernel
theorem dL_shift_25 : decode cL_shift 25 = .ok (.dup2, 1) := by decide +kernel
theorem dL_shift_26 : decode cL_shift 26 = .ok (.iaload, 1) := by decide +kernel
theorem dL_shift_27 : decode cL_shift 27 = .ok (.iconst 1, 1) := by decide +kernel
theorem dL_shift_28 : decode cL_shift 28 = .ok (.isub, 1) := by decide +kernel
theorem dL_shift_29 : decode cL_shift 29 = .ok (.iastore, 1) := by decide +kernel
theorem dL_shift_30 : decode cL_shift 30 = .ok (.aload_n 0, 1) := by decide +kernel
theorem dL_shift_31 : decode cL_shift 31 = .ok (.bipush 16, 2) := by decide +kernel
theorem dL_shift_33 : decode cL_shift 33 = .ok (.iconst 1, 1) := by decide +kernel
theorem dL_shift_34 : decode cL_shift 34 = .ok (.iload_n 1, 1) := by decide +kernel
theorem dL_shift_35 : decode cL_shift 35 = .ok (.isub, 1) := by decide +kernel
theorem dL_shift_36 : decode cL_shift 36 = .ok (.imul, 1) := by decide +kernel
theorem dL_shift_37 : decode cL_shift 37 = .ok (.dup2, 1) := by decide +kernel
theorem dL_shift_38 : decode cL_shift 38 = .ok (.iaload, 1) := by decide +kernel
theorem dL_shift_39 : decode cL_shift 39 = .ok (.iconst 1, 1) := by decide +kernel
theorem dL_shift_40 : decode cL_shift 40 = .ok (.iadd, 1) := by decide +kernel
theorem dL_shift_41 : decode cL_shift 41 = .ok (.iastore, 1) := by decide +kernel
theorem dL_shift_42 : decode cL_shift 42 = .ok (.aload_n 0, 1) := by decide +kernel
theorem dL_shift_43 : decode cL_shift 43 = .ok (.bipush 16, 2) := by decide +kernel
theorem dL_shift_45 : decode cL_shift 45 = .ok (.iload_n 1, 1) := by decide +kernel
theorem dL_shift_46 : decode cL_shift 46 = .ok (.imul, 1) := by decide +kernel
theorem dL_shift_47 : decode cL_shift 47 = .ok (.iload_n 2, 1) := by decide +kernel
theorem dL_shift_48 : decode cL_shift 48 = .ok (.iadd, 1) := by decide +kernel
theorem dL_shift_49 : decode cL_shift 49 = .ok (.dup2, 1) := by decide +kernel
theorem dL_shift_50 : decode cL_shift 50 = .ok (.iaload, 1) := by decide +kernel
theorem dL_shift_51 : decode cL_shift 51 = .ok (.iconst 1, 1) := by decide +kernel
theorem dL_shift_52 : decode cL_shift 52 = .ok (.isub, 1) := by decide +kernel
theorem dL_shift_53 : decode cL_shift 53 = .ok (.iastore, 1) := by decide +kernel
theorem dL_shift_54 : decode cL_shift 54 = .ok (.aload_n 0, 1) := by decide +kernel
theorem dL_shift_55 : decode cL_shift 55 = .ok (.bipush 16, 2) := by decide +kernel
theorem dL_shift_57 : decode cL_shift 57 = .ok (.iload_n 1, 1) := by decide +kernel
theorem dL_shift_58 : decode cL_shift 58 = .ok (.imul, 1) := by decide +kernel
theorem dL_shift_59 : decode cL_shift 59 = .ok (.iload 4, 2) := by decide +kernel
theorem dL_shift_61 : decode cL_shift 61 = .ok (.iadd, 1) := by decide +kernel
theorem dL_shift_62 : decode cL_shift 62 = .ok (.dup2, 1) := by decide +kernel
theorem dL_shift_63 : decode cL_shift 63 = .ok (.iaload, 1) := by decide +kernel
theorem dL_shift_64 : decode cL_shift 64 = .ok (.iconst 1, 1) := by decide +kernel
theorem dL_shift_65 : decode cL_shift 65 = .ok (.iadd, 1) := by decide +kernel
theorem dL_shift_66 : decode cL_shift 66 = .ok (.iastore, 1) := by decide +kernel
theorem dL_shift_67 : decode cL_shift 67 = .ok (.return_, 1) := by decide +kernel
theorem dL_after_0 : decode cL_after 0 = .ok (.iload_n 1, 1) := by decide +kernel
theorem dL_after_1 : decode cL_after 1 = .ok (.iconst 4, 1) := by decide +kernel
theorem dL_after_2 : decode cL_after 2 = .ok (.if_icmp .eq 15, 3) := by decide +kernel
theorem dL_after_5 : decode cL_after 5 = .ok (.iload_n 1, 1) := by decide +kernel
theorem dL_after_6 : decode cL_after 6 = .ok (.bipush 8, 2) := by decide +kernel
theorem dL_after_8 : decode cL_after 8 = .ok (.if_icmp .eq 9, 3) := by decide +kernel
theorem dL_after_11 : decode cL_after 11 = .ok (.iload_n 1, 1) := by decide +kernel
theorem dL_after_12 : decode cL_after 12 = .ok (.bipush 14, 2) := by decide +kernel
theorem dL_after_14 : decode cL_after 14 = .ok (.if_icmp .ne 7, 3) := by decide +kernel
theorem dL_after_17 : decode cL_after 17 = .ok (.iload_n 0, 1) := by decide +kernel
theorem dL_after_18 : decode cL_after 18 = .ok (.goto 6, 3) := by decide +kernel
theorem dL_after_21 : decode cL_after 21 = .ok (.iconst 1, 1) := by decide +kernel
theorem dL_after_22 : decode cL_after 22 = .ok (.iload_n 0, 1) := by decide +kernel
theorem dL_after_23 : decode cL_after 23 = .ok (.isub, 1) := by decide +kernel
theorem dL_after_24 : decode cL_after 24 = .ok (.ireturn, 1) := by decide +kernel
theorem dL_progress_0 : decode cL_progress 0 = .ok (.iconst 0, 1) := by decide +kernel
theorem dL_progress_1 : decode cL_progress 1 = .ok (.istore_n 2, 1) := by decide +kernel
theorem dL_progress_2 : decode cL_progress 2 = .ok (.iconst 1, 1) := by decide +kernel
theorem dL_progress_3 : decode cL_progress 3 = .ok (.istore_n 3, 1) := by decide +kernel
theorem dL_progress_4 : decode cL_progress 4 = .ok (.iload_n 3, 1) := by decide +kernel
theorem dL_progress_5 : decode cL_progress 5 = .ok (.bipush 16, 2) := by decide +kernel
theorem dL_progress_7 : decode cL_progress 7 = .ok (.if_icmp .ge 22, 3) := by decide +kernel
theorem dL_progress_10 : decode cL_progress 10 = .ok (.iload_n 2, 1) := by decide +kernel
theorem dL_progress_11 : decode cL_progress 11 = .ok (.iload_n 3, 1) := by decide +kernel
theorem dL_progress_12 : decode cL_progress 12 = .ok (.aload_n 0, 1) := by decide +kernel
theorem dL_progress_13 : decode cL_progress 13 = .ok (.bipush 16, 2) := by decide +kernel
theorem dL_progress_15 : decode cL_progress 15 = .ok (.iload_n 1, 1) := by decide +kernel
theorem dL_progress_16 : decode cL_progress 16 = .ok (.imul, 1) := by decide +kernel
theorem dL_progress_17 : decode cL_progress 17 = .ok (.iload_n 3, 1) := by decide +kernel
theorem dL_progress_18 : decode cL_progress 18 = .ok (.iadd, 1) := by decide +kernel
theorem dL_progress_19 : decode cL_progress 19 = .ok (.iaload, 1) := by decide +kernel
theorem dL_progress_20 : decode cL_progress 20 = .ok (.imul, 1) := by decide +kernel
theorem dL_progress_21 : decode cL_progress 21 = .ok (.iadd, 1) := by decide +kernel
theorem dL_progress_22 : decode cL_progress 22 = .ok (.istore_n 2, 1) := by decide +kernel
theorem dL_progress_23 : decode cL_progress 23 = .ok (.iinc 3 1, 3) := by decide +kernel
theorem dL_progress_26 : decode cL_progress 26 = .ok (.goto (-22), 3) := by decide +kernel
theorem dL_progress_29 : decode cL_progress 29 = .ok (.iload_n 2, 1) := by decide +kernel
theorem dL_progress_30 : decode cL_progress 30 = .ok (.ireturn, 1) := by decide +kernel
theorem dL_plain_0 : decode cL_plain 0 = .ok (.iconst (-1), 1) := by decide +kernel
theorem dL_plain_1 : decode cL_plain 1 = .ok (.istore 4, 2) := by decide +kernel
theorem dL_plain_3 : decode cL_plain 3 = .ok (.iconst (-1), 1) := by decide +kernel
theorem dL_plain_4 : decode cL_plain 4 = .ok (.istore 5, 2) := by decide +kernel
theorem dL_plain_6 : decode cL_plain 6 = .ok (.iconst 0, 1) := by decide +kernel
theorem dL_plain_7 : decode cL_plain 7 = .ok (.istore 6, 2) := by decide +kernel
theorem dL_plain_9 : decode cL_plain 9 = .ok (.iload 6, 2) := by decide +kernel
theorem dL_plain_11 : decode cL_plain 11 = .ok (.bipush 15, 2) := by decide +kernel
theorem dL_plain_13 : decode cL_plain 13 = .ok (.if_icmp .ge 53, 3) := by decide +kernel
theorem dL_plain_16 : decode cL_plain 16 = .ok (.aload_n 1, 1) := by decide +kernel
theorem dL_plain_17 : decode cL_plain 17 = .ok (.bipush 16, 2) := by decide +kernel
theorem dL_plain_19 : decode cL_plain 19 = .ok (.iload_n 2, 1) := by decide +kernel
theorem dL_plain_20 : decode cL_plain 20 = .ok (.imul, 1) := by decide +kernel
theorem dL_plain_21 : decode cL_plain 21 = .ok (.iload 6, 2) := by decide +kernel
theorem dL_plain_23 : decode cL_plain 23 = .ok (.iadd, 1) := by decide +kernel
theorem dL_plain_24 : decode cL_plain 24 = .ok (.iaload, 1) := by decide +kernel
theorem dL_plain_25 : decode cL_plain 25 = .ok (.ifCond .le 8, 3) := by decide +kernel
theorem dL_plain_28 : decode cL_plain 28 = .ok (.iload 6, 2) := by decide +kernel
theorem dL_plain_30 : decode cL_plain 30 = .ok (.goto 5, 3) := by decide +kernel
theorem dL_plain_33 : decode cL_plain 33 = .ok (.iload 4, 2) := by decide +kernel
theorem dL_plain_35 : decode cL_plain 35 = .ok (.istore 4, 2) := by decide +kernel
theorem dL_plain_37 : decode cL_plain 37 = .ok (.aload_n 1, 1) := by decide +kernel
theorem dL_plain_38 : decode cL_plain 38 = .ok (.bipush 16, 2) := by decide +kernel
theorem dL_plain_40 : decode cL_plain 40 = .ok (.iconst 1, 1) := by decide +kernel
theorem dL_plain_41 : decode cL_plain 41 = .ok (.iload_n 2, 1) := by decide +kernel
theorem dL_plain_42 : decode cL_plain 42 = .ok (.isub, 1) := by decide +kernel
theorem dL_plain_43 : decode cL_plain 43 = .ok (.imul, 1) := by decide +kernel
theorem dL_plain_44 : decode cL_plain 44 = .ok (.iload 6, 2) := by decide +kernel
theorem dL_plain_46 : decode cL_plain 46 = .ok (.iadd, 1) := by decide +kernel
theorem dL_plain_47 : decode cL_plain 47 = .ok (.iaload, 1) := by decide +kernel
theorem dL_plain_48 : decode cL_plain 48 = .ok (.ifCond .le 8, 3) := by decide +kernel
theorem dL_plain_51 : decode cL_plain 51 = .ok (.iload 6, 2) := by decide +kernel
theorem dL_plain_53 : decode cL_plain 53 = .ok (.goto 5, 3) := by decide +kernel
theorem dL_plain_56 : decode cL_plain 56 = .ok (.iload 5, 2) := by decide +kernel
theorem dL_plain_58 : decode cL_plain 58 = .ok (.istore 5, 2) := by decide +kernel
theorem dL_plain_60 : decode cL_plain 60 = .ok (.iinc 6 1, 3) := by decide +kernel
theorem dL_plain_63 : decode cL_plain 63 = .ok (.goto (-54), 3) := by decide +kernel
theorem dL_plain_66 : decode cL_plain 66 = .ok (.aload_n 1, 1) := by decide +kernel
theorem dL_plain_67 : decode cL_plain 67 = .ok (.bipush 16, 2) := by decide +kernel
theorem dL_plain_69 : decode cL_plain 69 = .ok (.iload_n 2, 1) := by decide +kernel
theorem dL_plain_70 : decode cL_plain 70 = .ok (.imul, 1) := by decide +kernel
theorem dL_plain_71 : decode cL_plain 71 = .ok (.bipush 15, 2) := by decide +kernel
theorem dL_plain_73 : decode cL_plain 73 = .ok (.iadd, 1) := by decide +kernel
theorem dL_plain_74 : decode cL_plain 74 = .ok (.iaload, 1) := by decide +kernel
theorem dL_plain_75 : decode cL_plain 75 = .ok (.iload_n 3, 1) := by decide +kernel
theorem dL_plain_76 : decode cL_plain 76 = .ok (.iconst 1, 1) := by decide +kernel
theorem dL_plain_77 : decode cL_plain 77 = .ok (.isub, 1) := by decide +kernel
theorem dL_plain_78 : decode cL_plain 78 = .ok (.if_icmp .ne 31, 3) := by decide +kernel
theorem dL_plain_81 : decode cL_plain 81 = .ok (.aload_n 1, 1) := by decide +kernel
theorem dL_plain_82 : decode cL_plain 82 = .ok (.bipush 16, 2) := by decide +kernel
theorem dL_plain_84 : decode cL_plain 84 = .ok (.iconst 1, 1) := by decide +kernel
theorem dL_plain_85 : decode cL_plain 85 = .ok (.iload_n 2, 1) := by decide +kernel
theorem dL_plain_86 : decode cL_plain 86 = .ok (.isub, 1) := by decide +kernel
theorem dL_plain_87 : decode cL_plain 87 = .ok (.imul, 1) := by decide +kernel
theorem dL_plain_88 : decode cL_plain 88 = .ok (.bipush 15, 2) := by decide +kernel
theorem dL_plain_90 : decode cL_plain 90 = .ok (.iadd, 1) := by decide +kernel
theorem dL_plain_91 : decode cL_plain 91 = .ok (.iaload, 1) := by decide +kernel
theorem dL_plain_92 : decode cL_plain 92 = .ok (.iload_n 3, 1) := by decide +kernel
theorem dL_plain_93 : decode cL_plain 93 = .ok (.iconst 1, 1) := by decide +kernel
theorem dL_plain_94 : decode cL_plain 94 = .ok (.isub, 1) := by decide +kernel
theorem dL_plain_95 : decode cL_plain 95 = .ok (.if_icmp .ne 14, 3) := by decide +kernel
theorem dL_plain_98 : decode cL_plain 98 = .ok (.aload_n 0, 1) := by decide +kernel
theorem dL_plain_99 : decode cL_plain 99 = .ok (.iload 4, 2) := by decide +kernel
theorem dL_plain_101 : decode cL_plain 101 = .ok (.iload 5, 2) := by decide +kernel
theorem dL_plain_103 : decode cL_plain 103 = .ok (.bipush 40, 2) := by decide +kernel
theorem dL_plain_105 : decode cL_plain 105 = .ok (.invokevirtual 27, 3) := by decide +kernel
theorem dL_plain_108 : decode cL_plain 108 = .ok (.ireturn, 1) := by decide +kernel
theorem dL_plain_109 : decode cL_plain 109 = .ok (.ldc 31, 2) := by decide +kernel
theorem dL_plain_111 : decode cL_plain 111 = .ok (.ldc 32, 2) := by decide +kernel
theorem dL_plain_113 : decode cL_plain 113 = .ok (.aload_n 1, 1) := by decide +kernel
theorem dL_plain_114 : decode cL_plain 114 = .ok (.iload_n 2, 1) := by decide +kernel
theorem dL_plain_115 : decode cL_plain 115 = .ok (.invokestatic 33, 3) := by decide +kernel
theorem dL_plain_118 : decode cL_plain 118 = .ok (.aload_n 1, 1) := by decide +kernel
theorem dL_plain_119 : decode cL_plain 119 = .ok (.iconst 1, 1) := by decide +kernel
theorem dL_plain_120 : decode cL_plain 120 = .ok (.iload_n 2, 1) := by decide +kernel
theorem dL_plain_121 : decode cL_plain 121 = .ok (.isub, 1) := by decide +kernel
theorem dL_plain_122 : decode cL_plain 122 = .ok (.invokestatic 33, 3) := by decide +kernel
theorem dL_plain_125 : decode cL_plain 125 = .ok (.isub, 1) := by decide +kernel
theorem dL_plain_126 : decode cL_plain 126 = .ok (.imul, 1) := by decide +kernel
theorem dL_plain_127 : decode cL_plain 127 = .ok (.iadd, 1) := by decide +kernel
theorem dL_plain_128 : decode cL_plain 128 = .ok (.ireturn, 1) := by decide +kernel
theorem dL_ahead_0 : decode cL_ahead 0 = .ok (.lconst 0, 1) := by decide +kernel
theorem dL_ahead_1 : decode cL_ahead 1 = .ok (.lstore 5, 2) := by decide +kernel
theorem dL_ahead_3 : decode cL_ahead 3 = .ok (.iconst 0, 1) := by decide +kernel
theorem dL_ahead_4 : decode cL_ahead 4 = .ok (.istore 7, 2) := by decide +kernel
theorem dL_ahead_6 : decode cL_ahead 6 = .ok (.iload 7, 2) := by decide +kernel
theorem dL_ahead_8 : decode cL_ahead 8 = .ok (.iconst 5, 1) := by decide +kernel
theorem dL_ahead_9 : decode cL_ahead 9 = .ok (.if_icmp .ge 202, 3) := by decide +kernel
theorem dL_ahead_12 : decode cL_ahead 12 = .ok (.iconst (-1), 1) := by decide +kernel
theorem dL_ahead_13 : decode cL_ahead 13 = .ok (.istore 8, 2) := by decide +kernel
theorem dL_ahead_15 : decode cL_ahead 15 = .ok (.iconst 0, 1) := by decide +kernel
theorem dL_ahead_16 : decode cL_ahead 16 = .ok (.istore 9, 2) := by decide +kernel
theorem dL_ahead_18 : decode cL_ahead 18 = .ok (.iload 9, 2) := by decide +kernel
theorem dL_ahead_20 : decode cL_ahead 20 = .ok (.bipush 15, 2) := by decide +kernel
theorem dL_ahead_22 : decode cL_ahead 22 = .ok (.if_icmp .ge 124, 3) := by decide +kernel
theorem dL_ahead_25 : decode cL_ahead 25 = .ok (.aload_n 1, 1) := by decide +kernel
theorem dL_ahead_26 : decode cL_ahead 26 = .ok (.iload_n 3, 1) := by decide +kernel
theorem dL_ahead_27 : decode cL_ahead 27 = .ok (.iload 9, 2) := by decide +kernel
theorem dL_ahead_29 : decode cL_ahead 29 = .ok (.iload 7, 2) := by decide +kernel
theorem dL_ahead_31 : decode cL_ahead 31 = .ok (.invokestatic 37, 3) := by decide +kernel
theorem dL_ahead_34 : decode cL_ahead 34 = .ok (.ifCond .eq 106, 3) := by decide +kernel
theorem dL_ahead_37 : decode cL_ahead 37 = .ok (.aload_n 1, 1) := by decide +kernel
theorem dL_ahead_38 : decode cL_ahead 38 = .ok (.aload_n 2, 1) := by decide +kernel
theorem dL_ahead_39 : decode cL_ahead 39 = .ok (.invokestatic 41, 3) := by decide +kernel
theorem dL_ahead_42 : decode cL_ahead 42 = .ok (.aload_n 2, 1) := by decide +kernel
theorem dL_ahead_43 : decode cL_ahead 43 = .ok (.iload_n 3, 1) := by decide +kernel
theorem dL_ahead_44 : decode cL_ahead 44 = .ok (.iload 9, 2) := by decide +kernel
theorem dL_ahead_46 : decode cL_ahead 46 = .ok (.iload 7, 2) := by decide +kernel
theorem dL_ahead_48 : decode cL_ahead 48 = .ok (.invokestatic 45, 3) := by decide +kernel
theorem dL_ahead_51 : decode cL_ahead 51 = .ok (.iload_n 3, 1) := by decide +kernel
theorem dL_ahead_52 : decode cL_ahead 52 = .ok (.iload 9, 2) := by decide +kernel
theorem dL_ahead_54 : decode cL_ahead 54 = .ok (.iload 7, 2) := by decide +kernel
theorem dL_ahead_56 : decode cL_ahead 56 = .ok (.iadd, 1) := by decide +kernel
theorem dL_ahead_57 : decode cL_ahead 57 = .ok (.invokestatic 49, 3) := by decide +kernel
theorem dL_ahead_60 : decode cL_ahead 60 = .ok (.istore 10, 2) := by decide +kernel
theorem dL_ahead_62 : decode cL_ahead 62 = .ok (.aload_n 2, 1) := by decide +kernel
theorem dL_ahead_63 : decode cL_ahead 63 = .ok (.bipush 16, 2) := by decide +kernel
theorem dL_ahead_65 : decode cL_ahead 65 = .ok (.iload_n 3, 1) := by decide +kernel
theorem dL_ahead_66 : decode cL_ahead 66 = .ok (.imul, 1) := by decide +kernel
theorem dL_ahead_67 : decode cL_ahead 67 = .ok (.bipush 15, 2) := by decide +kernel
theorem dL_ahead_69 : decode cL_ahead 69 = .ok (.iadd, 1) := by decide +kernel
theorem dL_ahead_70 : decode cL_ahead 70 = .ok (.iaload, 1) := by decide +kernel
theorem dL_ahead_71 : decode cL_ahead 71 = .ok (.iload 4, 2) := by decide +kernel
theorem dL_ahead_73 : decode cL_ahead 73 = .ok (.if_icmp .ne 8, 3) := by decide +kernel
theorem dL_ahead_76 : decode cL_ahead 76 = .ok (.ldc 53, 2) := by decide +kernel
theorem dL_ahead_78 : decode cL_ahead 78 = .ok (.goto 12, 3) := by decide +kernel
theorem dL_ahead_81 : decode cL_ahead 81 = .ok (.aload_n 0, 1) := by decide +kernel
theorem dL_ahead_82 : decode cL_ahead 82 = .ok (.aload_n 2, 1) := by decide +kernel
theorem dL_ahead_83 : decode cL_ahead 83 = .ok (.iload 10, 2) := by decide +kernel
theorem dL_ahead_85 : decode cL_ahead 85 = .ok (.iload 4, 2) := by decide +kernel
theorem dL_ahead_87 : decode cL_ahead 87 = .ok (.invokestatic 54, 3) := by decide +kernel
theorem dL_ahead_90 : decode cL_ahead 90 = .ok (.istore 11, 2) := by decide +kernel
theorem dL_ahead_92 : decode cL_ahead 92 = .ok (.aload_n 2, 1) := by decide +kernel
theorem dL_ahead_93 : decode cL_ahead 93 = .ok (.bipush 16, 2) := by decide +kernel
theorem dL_ahead_95 : decode cL_ahead 95 = .ok (.iload_n 3, 1) := by decide +kernel
theorem dL_ahead_96 : decode cL_ahead 96 = .ok (.imul, 1) := by decide +kernel
theorem dL_ahead_97 : decode cL_ahead 97 = .ok (.bipush 15, 2) := by decide +kernel
theorem dL_ahead_99 : decode cL_ahead 99 = .ok (.iadd, 1) := by decide +kernel
theorem dL_ahead_100 : decode cL_ahead 100 = .ok (.iaload, 1) := by decide +kernel
theorem dL_ahead_101 : decode cL_ahead 101 = .ok (.iload 4, 2) := by decide +kernel
theorem dL_ahead_103 : decode cL_ahead 103 = .ok (.if_icmp .eq 9, 3) := by decide +kernel
theorem dL_ahead_106 : decode cL_ahead 106 = .ok (.iload 10, 2) := by decide +kernel
theorem dL_ahead_108 : decode cL_ahead 108 = .ok (.iload_n 3, 1) := by decide +kernel
theorem dL_ahead_109 : decode cL_ahead 109 = .ok (.if_icmp .ne 8, 3) := by decide +kernel
theorem dL_ahead_112 : decode cL_ahead 112 = .ok (.iload 11, 2) := by decide +kernel
theorem dL_ahead_114 : decode cL_ahead 114 = .ok (.goto 8, 3) := by decide +kernel
theorem dL_ahead_117 : decode cL_ahead 117 = .ok (.ldc 53, 2) := by decide +kernel
theorem dL_ahead_119 : decode cL_ahead 119 = .ok (.iload 11, 2) := by decide +kernel
theorem dL_ahead_121 : decode cL_ahead 121 = .ok (.isub, 1) := by decide +kernel
theorem dL_ahead_122 : decode cL_ahead 122 = .ok (.istore 11, 2) := by decide +kernel
theorem dL_ahead_124 : decode cL_ahead 124 = .ok (.iload 11, 2) := by decide +kernel
theorem dL_ahead_126 : decode cL_ahead 126 = .ok (.iload 8, 2) := by decide +kernel
theorem dL_ahead_128 : decode cL_ahead 128 = .ok (.if_icmp .le 8, 3) := by decide +kernel
theorem dL_ahead_131 : decode cL_ahead 131 = .ok (.iload 11, 2) := by decide +kernel
theorem dL_ahead_133 : decode cL_ahead 133 = .ok (.goto 5, 3) := by decide +kernel
theorem dL_ahead_136 : decode cL_ahead 136 = .ok (.iload 8, 2) := by decide +kernel
theorem dL_ahead_138 : decode cL_ahead 138 = .ok (.istore 8, 2) := by decide +kernel
theorem dL_ahead_140 : decode cL_ahead 140 = .ok (.iinc 9 1, 3) := by decide +kernel
theorem dL_ahead_143 : decode cL_ahead 143 = .ok (.goto (-125), 3) := by decide +kernel
theorem dL_ahead_146 : decode cL_ahead 146 = .ok (.iload 8, 2) := by decide +kernel
theorem dL_ahead_148 : decode cL_ahead 148 = .ok (.ifCond .ge 19, 3) := by decide +kernel
theorem dL_ahead_151 : decode cL_ahead 151 = .ok (.ldc 53, 2) := by decide +kernel
theorem dL_ahead_153 : decode cL_ahead 153 = .ok (.aload_n 0, 1) := by decide +kernel
theorem dL_ahead_154 : decode cL_ahead 154 = .ok (.aload_n 1, 1) := by decide +kernel
theorem dL_ahead_155 : decode cL_ahead 155 = .ok (.iconst 1, 1) := by decide +kernel
theorem dL_ahead_156 : decode cL_ahead 156 = .ok (.iload_n 3, 1) := by decide +kernel
theorem dL_ahead_157 : decode cL_ahead 157 = .ok (.isub, 1) := by decide +kernel
theorem dL_ahead_158 : decode cL_ahead 158 = .ok (.iload 4, 2) := by decide +kernel
theorem dL_ahead_160 : decode cL_ahead 160 = .ok (.invokestatic 54, 3) := by decide +kernel
theorem dL_ahead_163 : decode cL_ahead 163 = .ok (.isub, 1) := by decide +kernel
theorem dL_ahead_164 : decode cL_ahead 164 = .ok (.goto 5, 3) := by decide +kernel
theorem dL_ahead_167 : decode cL_ahead 167 = .ok (.iload 8, 2) := by decide +kernel
theorem dL_ahead_169 : decode cL_ahead 169 = .ok (.istore 8, 2) := by decide +kernel
theorem dL_ahead_171 : decode cL_ahead 171 = .ok (.lload 5, 2) := by decide +kernel
theorem dL_ahead_173 : decode cL_ahead 173 = .ok (.iload 8, 2) := by decide +kernel
theorem dL_ahead_175 : decode cL_ahead 175 = .ok (.i2l, 1) := by decide +kernel
theorem dL_ahead_176 : decode cL_ahead 176 = .ok (.iload 7, 2) := by decide +kernel
theorem dL_ahead_178 : decode cL_ahead 178 = .ok (.iconst 2, 1) := by decide +kernel
theorem dL_ahead_179 : decode cL_ahead 179 = .ok (.if_icmp .ne 8, 3) := by decide +kernel
theorem dL_ahead_182 : decode cL_ahead 182 = .ok (.bipush 6, 2) := by decide +kernel
theorem dL_ahead_184 : decode cL_ahead 184 = .ok (.goto 16, 3) := by decide +kernel
theorem dL_ahead_187 : decode cL_ahead 187 = .ok (.iload 7, 2) := by decide +kernel
theorem dL_ahead_189 : decode cL_ahead 189 = .ok (.iconst 2, 1) := by decide +kernel
theorem dL_ahead_190 : decode cL_ahead 190 = .ok (.irem, 1) := by decide +kernel
theorem dL_ahead_191 : decode cL_ahead 191 = .ok (.iconst 1, 1) := by decide +kernel
theorem dL_ahead_192 : decode cL_ahead 192 = .ok (.if_icmp .ne 7, 3) := by decide +kernel
theorem dL_ahead_195 : decode cL_ahead 195 = .ok (.iconst 4, 1) := by decide +kernel
theorem dL_ahead_196 : decode cL_ahead 196 = .ok (.goto 4, 3) := by decide +kernel
theorem dL_ahead_199 : decode cL_ahead 199 = .ok (.iconst 1, 1) := by decide +kernel
theorem dL_ahead_200 : decode cL_ahead 200 = .ok (.i2l, 1) := by decide +kernel
theorem dL_ahead_201 : decode cL_ahead 201 = .ok (.lmul, 1) := by decide +kernel
theorem dL_ahead_202 : decode cL_ahead 202 = .ok (.ladd, 1) := by decide +kernel
theorem dL_ahead_203 : decode cL_ahead 203 = .ok (.lstore 5, 2) := by decide +kernel
theorem dL_ahead_205 : decode cL_ahead 205 = .ok (.iinc 7 1, 3) := by decide +kernel
theorem dL_ahead_208 : decode cL_ahead 208 = .ok (.goto (-202), 3) := by decide +kernel
theorem dL_ahead_211 : decode cL_ahead 211 = .ok (.lload 5, 2) := by decide +kernel
theorem dL_ahead_213 : decode cL_ahead 213 = .ok (.ldc2_w 58, 3) := by decide +kernel
theorem dL_ahead_216 : decode cL_ahead 216 = .ok (.ldiv, 1) := by decide +kernel
theorem dL_ahead_217 : decode cL_ahead 217 = .ok (.l2i, 1) := by decide +kernel
theorem dL_ahead_218 : decode cL_ahead 218 = .ok (.ireturn, 1) := by decide +kernel
theorem dL_copy_0 : decode cL_copy 0 = .ok (.iconst 0, 1) := by decide +kernel
theorem dL_copy_1 : decode cL_copy 1 = .ok (.istore_n 2, 1) := by decide +kernel
theorem dL_copy_2 : decode cL_copy 2 = .ok (.iload_n 2, 1) := by decide +kernel
theorem dL_copy_3 : decode cL_copy 3 = .ok (.bipush 32, 2) := by decide +kernel
theorem dL_copy_5 : decode cL_copy 5 = .ok (.if_icmp .ge 15, 3) := by decide +kernel
theorem dL_copy_8 : decode cL_copy 8 = .ok (.aload_n 1, 1) := by decide +kernel
theorem dL_copy_9 : decode cL_copy 9 = .ok (.iload_n 2, 1) := by decide +kernel
theorem dL_copy_10 : decode cL_copy 10 = .ok (.aload_n 0, 1) := by decide +kernel
theorem dL_copy_11 : decode cL_copy 11 = .ok (.iload_n 2, 1) := by decide +kernel
theorem dL_copy_12 : decode cL_copy 12 = .ok (.iaload, 1) := by decide +kernel
theorem dL_copy_13 : decode cL_copy 13 = .ok (.iastore, 1) := by decide +kernel
theorem dL_copy_14 : decode cL_copy 14 = .ok (.iinc 2 1, 3) := by decide +kernel
theorem dL_copy_17 : decode cL_copy 17 = .ok (.goto (-15), 3) := by decide +kernel
theorem dL_copy_20 : decode cL_copy 20 = .ok (.return_, 1) := by decide +kernel
theorem dL_behind_0 : decode cL_behind 0 = .ok (.aload_n 3, 1) := by decide +kernel
theorem dL_behind_1 : decode cL_behind 1 = .ok (.aload 4, 2) := by decide +kernel
theorem dL_behind_3 : decode cL_behind 3 = .ok (.invokestatic 41, 3) := by decide +kernel
theorem dL_behind_6 : decode cL_behind 6 = .ok (.aload 4, 2) := by decide +kernel
theorem dL_behind_8 : decode cL_behind 8 = .ok (.aload 6, 2) := by decide +kernel
theorem dL_behind_10 : decode cL_behind 10 = .ok (.iconst 1, 1) := by decide +kernel
theorem dL_behind_11 : decode cL_behind 11 = .ok (.iaload, 1) := by decide +kernel
theorem dL_behind_12 : decode cL_behind 12 = .ok (.iload_n 1, 1) := by decide +kernel
theorem dL_behind_13 : decode cL_behind 13 = .ok (.aload 6, 2) := by decide +kernel
theorem dL_behind_15 : decode cL_behind 15 = .ok (.iconst 2, 1) := by decide +kernel
theorem dL_behind_16 : decode cL_behind 16 = .ok (.iaload, 1) := by decide +kernel
theorem dL_behind_17 : decode cL_behind 17 = .ok (.invokestatic 45, 3) := by decide +kernel
theorem dL_behind_20 : decode cL_behind 20 = .ok (.aload 4, 2) := by decide +kernel
theorem dL_behind_22 : decode cL_behind 22 = .ok (.bipush 16, 2) := by decide +kernel
theorem dL_behind_24 : decode cL_behind 24 = .ok (.aload 6, 2) := by decide +kernel
theorem dL_behind_26 : decode cL_behind 26 = .ok (.iconst 1, 1) := by decide +kernel
theorem dL_behind_27 : decode cL_behind 27 = .ok (.iaload, 1) := by decide +kernel
theorem dL_behind_28 : decode cL_behind 28 = .ok (.imul, 1) := by decide +kernel
theorem dL_behind_29 : decode cL_behind 29 = .ok (.bipush 15, 2) := by decide +kernel
theorem dL_behind_31 : decode cL_behind 31 = .ok (.iadd, 1) := by decide +kernel
theorem dL_behind_32 : decode cL_behind 32 = .ok (.iaload, 1) := by decide +kernel
theorem dL_behind_33 : decode cL_behind 33 = .ok (.aload 6, 2) := by decide +kernel
theorem dL_behind_35 : decode cL_behind 35 = .ok (.iconst 0, 1) := by decide +kernel
theorem dL_behind_36 : decode cL_behind 36 = .ok (.iaload, 1) := by decide +kernel
theorem dL_behind_37 : decode cL_behind 37 = .ok (.if_icmp .ne 6, 3) := by decide +kernel
theorem dL_behind_40 : decode cL_behind 40 = .ok (.ldc 53, 2) := by decide +kernel
theorem dL_behind_42 : decode cL_behind 42 = .ok (.ireturn, 1) := by decide +kernel
theorem dL_behind_43 : decode cL_behind 43 = .ok (.aload 6, 2) := by decide +kernel
theorem dL_behind_45 : decode cL_behind 45 = .ok (.iconst 1, 1) := by decide +kernel
theorem dL_behind_46 : decode cL_behind 46 = .ok (.iaload, 1) := by decide +kernel
theorem dL_behind_47 : decode cL_behind 47 = .ok (.iload_n 1, 1) := by decide +kernel
theorem dL_behind_48 : decode cL_behind 48 = .ok (.aload 6, 2) := by decide +kernel
theorem dL_behind_50 : decode cL_behind 50 = .ok (.iconst 2, 1) := by decide +kernel
theorem dL_behind_51 : decode cL_behind 51 = .ok (.iaload, 1) := by decide +kernel
theorem dL_behind_52 : decode cL_behind 52 = .ok (.iadd, 1) := by decide +kernel
theorem dL_behind_53 : decode cL_behind 53 = .ok (.invokestatic 49, 3) := by decide +kernel
theorem dL_behind_56 : decode cL_behind 56 = .ok (.istore 7, 2) := by decide +kernel
theorem dL_behind_58 : decode cL_behind 58 = .ok (.iload_n 2, 1) := by decide +kernel
theorem dL_behind_59 : decode cL_behind 59 = .ok (.ifCond .ne 18, 3) := by decide +kernel
theorem dL_behind_62 : decode cL_behind 62 = .ok (.aload_n 0, 1) := by decide +kernel
theorem dL_behind_63 : decode cL_behind 63 = .ok (.aload 4, 2) := by decide +kernel
theorem dL_behind_65 : decode cL_behind 65 = .ok (.iload 7, 2) := by decide +kernel
theorem dL_behind_67 : decode cL_behind 67 = .ok (.aload 6, 2) := by decide +kernel
theorem dL_behind_69 : decode cL_behind 69 = .ok (.iconst 0, 1) := by decide +kernel
theorem dL_behind_70 : decode cL_behind 70 = .ok (.iaload, 1) := by decide +kernel
theorem dL_behind_71 : decode cL_behind 71 = .ok (.invokestatic 54, 3) := by decide +kernel
theorem dL_behind_74 : decode cL_behind 74 = .ok (.goto 17, 3) := by decide +kernel
theorem dL_behind_77 : decode cL_behind 77 = .ok (.aload_n 0, 1) := by decide +kernel
theorem dL_behind_78 : decode cL_behind 78 = .ok (.aload 4, 2) := by decide +kernel
theorem dL_behind_80 : decode cL_behind 80 = .ok (.aload 5, 2) := by decide +kernel
theorem dL_behind_82 : decode cL_behind 82 = .ok (.iload 7, 2) := by decide +kernel
theorem dL_behind_84 : decode cL_behind 84 = .ok (.aload 6, 2) := by decide +kernel
theorem dL_behind_86 : decode cL_behind 86 = .ok (.iconst 0, 1) := by decide +kernel
theorem dL_behind_87 : decode cL_behind 87 = .ok (.iaload, 1) := by decide +kernel
theorem dL_behind_88 : decode cL_behind 88 = .ok (.invokestatic 60, 3) := by decide +kernel
theorem dL_behind_91 : decode cL_behind 91 = .ok (.istore 8, 2) := by decide +kernel
theorem dL_behind_93 : decode cL_behind 93 = .ok (.iload 7, 2) := by decide +kernel
theorem dL_behind_95 : decode cL_behind 95 = .ok (.aload 6, 2) := by decide +kernel
theorem dL_behind_97 : decode cL_behind 97 = .ok (.iconst 1, 1) := by decide +kernel
theorem dL_behind_98 : decode cL_behind 98 = .ok (.iaload, 1) := by decide +kernel
theorem dL_behind_99 : decode cL_behind 99 = .ok (.if_icmp .ne 8, 3) := by decide +kernel
theorem dL_behind_102 : decode cL_behind 102 = .ok (.iload 8, 2) := by decide +kernel
theorem dL_behind_104 : decode cL_behind 104 = .ok (.goto 8, 3) := by decide +kernel
theorem dL_behind_107 : decode cL_behind 107 = .ok (.ldc 53, 2) := by decide +kernel
theorem dL_behind_109 : decode cL_behind 109 = .ok (.iload 8, 2) := by decide +kernel
theorem dL_behind_111 : decode cL_behind 111 = .ok (.isub, 1) := by decide +kernel
theorem dL_behind_112 : decode cL_behind 112 = .ok (.ireturn, 1) := by decide +kernel
theorem dL_worths_0 : decode cL_worths 0 = .ok (.iconst 0, 1) := by decide +kernel
theorem dL_worths_1 : decode cL_worths 1 = .ok (.istore 7, 2) := by decide +kernel
theorem dL_worths_3 : decode cL_worths 3 = .ok (.iconst 0, 1) := by decide +kernel
theorem dL_worths_4 : decode cL_worths 4 = .ok (.istore 8, 2) := by decide +kernel
theorem dL_worths_6 : decode cL_worths 6 = .ok (.aload 5, 2) := by decide +kernel
theorem dL_worths_8 : decode cL_worths 8 = .ok (.iconst 3, 1) := by decide +kernel
theorem dL_worths_9 : decode cL_worths 9 = .ok (.iaload, 1) := by decide +kernel
theorem dL_worths_10 : decode cL_worths 10 = .ok (.ifCond .lt 25, 3) := by decide +kernel
theorem dL_worths_13 : decode cL_worths 13 = .ok (.aload 5, 2) := by decide +kernel
theorem dL_worths_15 : decode cL_worths 15 = .ok (.iconst 3, 1) := by decide +kernel
theorem dL_worths_16 : decode cL_worths 16 = .ok (.iaload, 1) := by decide +kernel
theorem dL_worths_17 : decode cL_worths 17 = .ok (.aload 5, 2) := by decide +kernel
theorem dL_worths_19 : decode cL_worths 19 = .ok (.iconst 1, 1) := by decide +kernel
theorem dL_worths_20 : decode cL_worths 20 = .ok (.iaload, 1) := by decide +kernel
theorem dL_worths_21 : decode cL_worths 21 = .ok (.if_icmp .ne 8, 3) := by decide +kernel
theorem dL_worths_24 : decode cL_worths 24 = .ok (.ldc 53, 2) := by decide +kernel
theorem dL_worths_26 : decode cL_worths 26 = .ok (.goto 4, 3) := by decide +kernel
theorem dL_worths_29 : decode cL_worths 29 = .ok (.iconst 0, 1) := by decide +kernel
theorem dL_worths_30 : decode cL_worths 30 = .ok (.istore 7, 2) := by decide +kernel
theorem dL_worths_32 : decode cL_worths 32 = .ok (.goto 47, 3) := by decide +kernel
theorem dL_worths_35 : decode cL_worths 35 = .ok (.aload 5, 2) := by decide +kernel
theorem dL_worths_37 : decode cL_worths 37 = .ok (.iconst 2, 1) := by decide +kernel
theorem dL_worths_38 : decode cL_worths 38 = .ok (.iaload, 1) := by decide +kernel
theorem dL_worths_39 : decode cL_worths 39 = .ok (.ifCond .ge 40, 3) := by decide +kernel
theorem dL_worths_42 : decode cL_worths 42 = .ok (.iload_n 1, 1) := by decide +kernel
theorem dL_worths_43 : decode cL_worths 43 = .ok (.ifCond .ne 19, 3) := by decide +kernel
theorem dL_worths_46 : decode cL_worths 46 = .ok (.aload_n 0, 1) := by decide +kernel
theorem dL_worths_47 : decode cL_worths 47 = .ok (.aload_n 2, 1) := by decide +kernel
theorem dL_worths_48 : decode cL_worths 48 = .ok (.aload 5, 2) := by decide +kernel
theorem dL_worths_50 : decode cL_worths 50 = .ok (.iconst 1, 1) := by decide +kernel
theorem dL_worths_51 : decode cL_worths 51 = .ok (.iaload, 1) := by decide +kernel
theorem dL_worths_52 : decode cL_worths 52 = .ok (.aload 5, 2) := by decide +kernel
theorem dL_worths_54 : decode cL_worths 54 = .ok (.iconst 0, 1) := by decide +kernel
theorem dL_worths_55 : decode cL_worths 55 = .ok (.iaload, 1) := by decide +kernel
theorem dL_worths_56 : decode cL_worths 56 = .ok (.invokestatic 54, 3) := by decide +kernel
theorem dL_worths_59 : decode cL_worths 59 = .ok (.goto 18, 3) := by decide +kernel
theorem dL_worths_62 : decode cL_worths 62 = .ok (.aload_n 0, 1) := by decide +kernel
theorem dL_worths_63 : decode cL_worths 63 = .ok (.aload_n 2, 1) := by decide +kernel
theorem dL_worths_64 : decode cL_worths 64 = .ok (.aload 4, 2) := by decide +kernel
theorem dL_worths_66 : decode cL_worths 66 = .ok (.aload 5, 2) := by decide +kernel
theorem dL_worths_68 : decode cL_worths 68 = .ok (.iconst 1, 1) := by decide +kernel
theorem dL_worths_69 : decode cL_worths 69 = .ok (.iaload, 1) := by decide +kernel
theorem dL_worths_70 : decode cL_worths 70 = .ok (.aload 5, 2) := by decide +kernel
theorem dL_worths_72 : decode cL_worths 72 = .ok (.iconst 0, 1) := by decide +kernel
theorem dL_worths_73 : decode cL_worths 73 = .ok (.iaload, 1) := by decide +kernel
theorem dL_worths_74 : decode cL_worths 74 = .ok (.invokestatic 60, 3) := by decide +kernel
theorem dL_worths_77 : decode cL_worths 77 = .ok (.istore 7, 2) := by decide +kernel
theorem dL_worths_79 : decode cL_worths 79 = .ok (.iconst 0, 1) := by decide +kernel
theorem dL_worths_80 : decode cL_worths 80 = .ok (.istore 9, 2) := by decide +kernel
theorem dL_worths_82 : decode cL_worths 82 = .ok (.iload 9, 2) := by decide +kernel
theorem dL_worths_84 : decode cL_worths 84 = .ok (.bipush 15, 2) := by decide +kernel
theorem dL_worths_86 : decode cL_worths 86 = .ok (.if_icmp .ge 95, 3) := by decide +kernel
theorem dL_worths_89 : decode cL_worths 89 = .ok (.aload 6, 2) := by decide +kernel
theorem dL_worths_91 : decode cL_worths 91 = .ok (.iload 9, 2) := by decide +kernel
theorem dL_worths_93 : decode cL_worths 93 = .ok (.aload 5, 2) := by decide +kernel
theorem dL_worths_95 : decode cL_worths 95 = .ok (.iconst 2, 1) := by decide +kernel
theorem dL_worths_96 : decode cL_worths 96 = .ok (.iaload, 1) := by decide +kernel
theorem dL_worths_97 : decode cL_worths 97 = .ok (.ifCond .lt 36, 3) := by decide +kernel
theorem dL_worths_100 : decode cL_worths 100 = .ok (.aload_n 2, 1) := by decide +kernel
theorem dL_worths_101 : decode cL_worths 101 = .ok (.aload 5, 2) := by decide +kernel
theorem dL_worths_103 : decode cL_worths 103 = .ok (.iconst 1, 1) := by decide +kernel
theorem dL_worths_104 : decode cL_worths 104 = .ok (.iaload, 1) := by decide +kernel
theorem dL_worths_105 : decode cL_worths 105 = .ok (.iload 9, 2) := by decide +kernel
theorem dL_worths_107 : decode cL_worths 107 = .ok (.aload 5, 2) := by decide +kernel
theorem dL_worths_109 : decode cL_worths 109 = .ok (.iconst 2, 1) := by decide +kernel
theorem dL_worths_110 : decode cL_worths 110 = .ok (.iaload, 1) := by decide +kernel
theorem dL_worths_111 : decode cL_worths 111 = .ok (.invokestatic 37, 3) := by decide +kernel
theorem dL_worths_114 : decode cL_worths 114 = .ok (.ifCond .eq 19, 3) := by decide +kernel
theorem dL_worths_117 : decode cL_worths 117 = .ok (.aload_n 0, 1) := by decide +kernel
theorem dL_worths_118 : decode cL_worths 118 = .ok (.iload 9, 2) := by decide +kernel
theorem dL_worths_120 : decode cL_worths 120 = .ok (.iload_n 1, 1) := by decide +kernel
theorem dL_worths_121 : decode cL_worths 121 = .ok (.aload_n 2, 1) := by decide +kernel
theorem dL_worths_122 : decode cL_worths 122 = .ok (.aload_n 3, 1) := by decide +kernel
theorem dL_worths_123 : decode cL_worths 123 = .ok (.aload 4, 2) := by decide +kernel
theorem dL_worths_125 : decode cL_worths 125 = .ok (.aload 5, 2) := by decide +kernel
theorem dL_worths_127 : decode cL_worths 127 = .ok (.invokestatic 64, 3) := by decide +kernel
theorem dL_worths_130 : decode cL_worths 130 = .ok (.goto 4, 3) := by decide +kernel
theorem dL_worths_133 : decode cL_worths 133 = .ok (.iconst (-1), 1) := by decide +kernel
theorem dL_worths_134 : decode cL_worths 134 = .ok (.iastore, 1) := by decide +kernel
theorem dL_worths_135 : decode cL_worths 135 = .ok (.aload 6, 2) := by decide +kernel
theorem dL_worths_137 : decode cL_worths 137 = .ok (.iload 9, 2) := by decide +kernel
theorem dL_worths_139 : decode cL_worths 139 = .ok (.iaload, 1) := by decide +kernel
theorem dL_worths_140 : decode cL_worths 140 = .ok (.iload 7, 2) := by decide +kernel
theorem dL_worths_142 : decode cL_worths 142 = .ok (.if_icmp .le 11, 3) := by decide +kernel
theorem dL_worths_145 : decode cL_worths 145 = .ok (.aload 6, 2) := by decide +kernel
theorem dL_worths_147 : decode cL_worths 147 = .ok (.iload 9, 2) := by decide +kernel
theorem dL_worths_149 : decode cL_worths 149 = .ok (.iaload, 1) := by decide +kernel
theorem dL_worths_150 : decode cL_worths 150 = .ok (.goto 5, 3) := by decide +kernel
theorem dL_worths_153 : decode cL_worths 153 = .ok (.iload 7, 2) := by decide +kernel
theorem dL_worths_155 : decode cL_worths 155 = .ok (.istore 7, 2) := by decide +kernel
theorem dL_worths_157 : decode cL_worths 157 = .ok (.iload 8, 2) := by decide +kernel
theorem dL_worths_159 : decode cL_worths 159 = .ok (.aload 6, 2) := by decide +kernel
theorem dL_worths_161 : decode cL_worths 161 = .ok (.iload 9, 2) := by decide +kernel
theorem dL_worths_163 : decode cL_worths 163 = .ok (.iaload, 1) := by decide +kernel
theorem dL_worths_164 : decode cL_worths 164 = .ok (.ifCond .ge 7, 3) := by decide +kernel
theorem dL_worths_167 : decode cL_worths 167 = .ok (.iconst 0, 1) := by decide +kernel
theorem dL_worths_168 : decode cL_worths 168 = .ok (.goto 4, 3) := by decide +kernel
theorem dL_worths_171 : decode cL_worths 171 = .ok (.iconst 1, 1) := by decide +kernel
theorem dL_worths_172 : decode cL_worths 172 = .ok (.iadd, 1) := by decide +kernel
theorem dL_worths_173 : decode cL_worths 173 = .ok (.istore 8, 2) := by decide +kernel
theorem dL_worths_175 : decode cL_worths 175 = .ok (.iinc 9 1, 3) := by decide +kernel
theorem dL_worths_178 : decode cL_worths 178 = .ok (.goto (-96), 3) := by decide +kernel
theorem dL_worths_181 : decode cL_worths 181 = .ok (.aload_n 0, 1) := by decide +kernel
theorem dL_worths_182 : decode cL_worths 182 = .ok (.iload_n 1, 1) := by decide +kernel
theorem dL_worths_183 : decode cL_worths 183 = .ok (.invokevirtual 68, 3) := by decide +kernel
theorem dL_worths_186 : decode cL_worths 186 = .ok (.aload 5, 2) := by decide +kernel
theorem dL_worths_188 : decode cL_worths 188 = .ok (.iconst 1, 1) := by decide +kernel
theorem dL_worths_189 : decode cL_worths 189 = .ok (.iaload, 1) := by decide +kernel
theorem dL_worths_190 : decode cL_worths 190 = .ok (.ifCond .ne 8, 3) := by decide +kernel
theorem dL_worths_193 : decode cL_worths 193 = .ok (.iload 7, 2) := by decide +kernel
theorem dL_worths_195 : decode cL_worths 195 = .ok (.goto 8, 3) := by decide +kernel
theorem dL_worths_198 : decode cL_worths 198 = .ok (.ldc 53, 2) := by decide +kernel
theorem dL_worths_200 : decode cL_worths 200 = .ok (.iload 7, 2) := by decide +kernel
theorem dL_worths_202 : decode cL_worths 202 = .ok (.isub, 1) := by decide +kernel
theorem dL_worths_203 : decode cL_worths 203 = .ok (.if_icmp .ne 23, 3) := by decide +kernel
theorem dL_worths_206 : decode cL_worths 206 = .ok (.aload_n 0, 1) := by decide +kernel
theorem dL_worths_207 : decode cL_worths 207 = .ok (.iload_n 1, 1) := by decide +kernel
theorem dL_worths_208 : decode cL_worths 208 = .ok (.invokevirtual 71, 3) := by decide +kernel
end
section
theorem dL_worths_211 : decode cL_worths 211 = .ok (.iload 7, 2) := by decide +kernel
theorem dL_worths_213 : decode cL_worths 213 = .ok (.i2d, 1) := by decide +kernel
theorem dL_worths_214 : decode cL_worths 214 = .ok (.ldc2_w 75, 3) := by decide +kernel
theorem dL_worths_217 : decode cL_worths 217 = .ok (.ddiv, 1) := by decide +kernel
theorem dL_worths_218 : decode cL_worths 218 = .ok (.dcmp .l, 1) := by decide +kernel
theorem dL_worths_219 : decode cL_worths 219 = .ok (.ifCond .ne 7, 3) := by decide +kernel
theorem dL_worths_222 : decode cL_worths 222 = .ok (.iconst 1, 1) := by decide +kernel
theorem dL_worths_223 : decode cL_worths 223 = .ok (.goto 4, 3) := by decide +kernel
theorem dL_worths_226 : decode cL_worths 226 = .ok (.iconst 0, 1) := by decide +kernel
theorem dL_worths_227 : decode cL_worths 227 = .ok (.istore 9, 2) := by decide +kernel
theorem dL_worths_229 : decode cL_worths 229 = .ok (.iconst 0, 1) := by decide +kernel
theorem dL_worths_230 : decode cL_worths 230 = .ok (.istore 10, 2) := by decide +kernel
theorem dL_worths_232 : decode cL_worths 232 = .ok (.iload 10, 2) := by decide +kernel
theorem dL_worths_234 : decode cL_worths 234 = .ok (.iload 8, 2) := by decide +kernel
theorem dL_worths_236 : decode cL_worths 236 = .ok (.if_icmp .ge 80, 3) := by decide +kernel
theorem dL_worths_239 : decode cL_worths 239 = .ok (.iload 9, 2) := by decide +kernel
theorem dL_worths_241 : decode cL_worths 241 = .ok (.ifCond .eq 75, 3) := by decide +kernel
theorem dL_worths_244 : decode cL_worths 244 = .ok (.iconst 0, 1) := by decide +kernel
theorem dL_worths_245 : decode cL_worths 245 = .ok (.istore 11, 2) := by decide +kernel
theorem dL_worths_247 : decode cL_worths 247 = .ok (.iconst 1, 1) := by decide +kernel
theorem dL_worths_248 : decode cL_worths 248 = .ok (.istore 12, 2) := by decide +kernel
theorem dL_worths_250 : decode cL_worths 250 = .ok (.iload 12, 2) := by decide +kernel
theorem dL_worths_252 : decode cL_worths 252 = .ok (.bipush 15, 2) := by decide +kernel
theorem dL_worths_254 : decode cL_worths 254 = .ok (.if_icmp .ge 31, 3) := by decide +kernel
theorem dL_worths_257 : decode cL_worths 257 = .ok (.aload 6, 2) := by decide +kernel
theorem dL_worths_259 : decode cL_worths 259 = .ok (.iload 12, 2) := by decide +kernel
theorem dL_worths_261 : decode cL_worths 261 = .ok (.iaload, 1) := by decide +kernel
theorem dL_worths_262 : decode cL_worths 262 = .ok (.aload 6, 2) := by decide +kernel
theorem dL_worths_264 : decode cL_worths 264 = .ok (.iload 11, 2) := by decide +kernel
theorem dL_worths_266 : decode cL_worths 266 = .ok (.iaload, 1) := by decide +kernel
theorem dL_worths_267 : decode cL_worths 267 = .ok (.if_icmp .le 8, 3) := by decide +kernel
theorem dL_worths_270 : decode cL_worths 270 = .ok (.iload 12, 2) := by decide +kernel
theorem dL_worths_272 : decode cL_worths 272 = .ok (.goto 5, 3) := by decide +kernel
theorem dL_worths_275 : decode cL_worths 275 = .ok (.iload 11, 2) := by decide +kernel
theorem dL_worths_277 : decode cL_worths 277 = .ok (.istore 11, 2) := by decide +kernel
theorem dL_worths_279 : decode cL_worths 279 = .ok (.iinc 12 1, 3) := by decide +kernel
theorem dL_worths_282 : decode cL_worths 282 = .ok (.goto (-32), 3) := by decide +kernel
theorem dL_worths_285 : decode cL_worths 285 = .ok (.aload 6, 2) := by decide +kernel
theorem dL_worths_287 : decode cL_worths 287 = .ok (.iload 11, 2) := by decide +kernel
theorem dL_worths_289 : decode cL_worths 289 = .ok (.iconst (-1), 1) := by decide +kernel
theorem dL_worths_290 : decode cL_worths 290 = .ok (.iastore, 1) := by decide +kernel
theorem dL_worths_291 : decode cL_worths 291 = .ok (.aload_n 0, 1) := by decide +kernel
theorem dL_worths_292 : decode cL_worths 292 = .ok (.iload_n 1, 1) := by decide +kernel
theorem dL_worths_293 : decode cL_worths 293 = .ok (.iload 10, 2) := by decide +kernel
theorem dL_worths_295 : decode cL_worths 295 = .ok (.invokevirtual 77, 3) := by decide +kernel
theorem dL_worths_298 : decode cL_worths 298 = .ok (.iload 11, 2) := by decide +kernel
theorem dL_worths_300 : decode cL_worths 300 = .ok (.if_icmp .ne 7, 3) := by decide +kernel
theorem dL_worths_303 : decode cL_worths 303 = .ok (.iconst 1, 1) := by decide +kernel
theorem dL_worths_304 : decode cL_worths 304 = .ok (.goto 4, 3) := by decide +kernel
theorem dL_worths_307 : decode cL_worths 307 = .ok (.iconst 0, 1) := by decide +kernel
theorem dL_worths_308 : decode cL_worths 308 = .ok (.istore 9, 2) := by decide +kernel
theorem dL_worths_310 : decode cL_worths 310 = .ok (.iinc 10 1, 3) := by decide +kernel
theorem dL_worths_313 : decode cL_worths 313 = .ok (.goto (-81), 3) := by decide +kernel
theorem dL_worths_316 : decode cL_worths 316 = .ok (.iload 9, 2) := by decide +kernel
theorem dL_worths_318 : decode cL_worths 318 = .ok (.ifCond .eq 18, 3) := by decide +kernel
theorem dL_worths_321 : decode cL_worths 321 = .ok (.aload_n 0, 1) := by decide +kernel
theorem dL_worths_322 : decode cL_worths 322 = .ok (.iload_n 1, 1) := by decide +kernel
theorem dL_worths_323 : decode cL_worths 323 = .ok (.iload 8, 2) := by decide +kernel
theorem dL_worths_325 : decode cL_worths 325 = .ok (.invokevirtual 77, 3) := by decide +kernel
theorem dL_worths_328 : decode cL_worths 328 = .ok (.iconst (-1), 1) := by decide +kernel
theorem dL_worths_329 : decode cL_worths 329 = .ok (.if_icmp .ne 7, 3) := by decide +kernel
theorem dL_worths_332 : decode cL_worths 332 = .ok (.iconst 1, 1) := by decide +kernel
theorem dL_worths_333 : decode cL_worths 333 = .ok (.goto 4, 3) := by decide +kernel
theorem dL_worths_336 : decode cL_worths 336 = .ok (.iconst 0, 1) := by decide +kernel
theorem dL_worths_337 : decode cL_worths 337 = .ok (.ireturn, 1) := by decide +kernel
theorem dL_isSo_0 : decode cL_isSo 0 = .ok (.aload_n 0, 1) := by decide +kernel
theorem dL_isSo_1 : decode cL_isSo 1 = .ok (.invokevirtual 80, 3) := by decide +kernel
theorem dL_isSo_4 : decode cL_isSo 4 = .ok (.aload_n 2, 1) := by decide +kernel
theorem dL_isSo_5 : decode cL_isSo 5 = .ok (.iconst 1, 1) := by decide +kernel
theorem dL_isSo_6 : decode cL_isSo 6 = .ok (.iaload, 1) := by decide +kernel
theorem dL_isSo_7 : decode cL_isSo 7 = .ok (.if_icmp .ne 37, 3) := by decide +kernel
theorem dL_isSo_10 : decode cL_isSo 10 = .ok (.aload_n 0, 1) := by decide +kernel
theorem dL_isSo_11 : decode cL_isSo 11 = .ok (.invokevirtual 84, 3) := by decide +kernel
theorem dL_isSo_14 : decode cL_isSo 14 = .ok (.aload_n 2, 1) := by decide +kernel
theorem dL_isSo_15 : decode cL_isSo 15 = .ok (.iconst 2, 1) := by decide +kernel
theorem dL_isSo_16 : decode cL_isSo 16 = .ok (.iaload, 1) := by decide +kernel
theorem dL_isSo_17 : decode cL_isSo 17 = .ok (.if_icmp .ne 27, 3) := by decide +kernel
theorem dL_isSo_20 : decode cL_isSo 20 = .ok (.aload_n 0, 1) := by decide +kernel
theorem dL_isSo_21 : decode cL_isSo 21 = .ok (.invokevirtual 87, 3) := by decide +kernel
theorem dL_isSo_24 : decode cL_isSo 24 = .ok (.aload_n 2, 1) := by decide +kernel
theorem dL_isSo_25 : decode cL_isSo 25 = .ok (.iconst 3, 1) := by decide +kernel
theorem dL_isSo_26 : decode cL_isSo 26 = .ok (.iaload, 1) := by decide +kernel
theorem dL_isSo_27 : decode cL_isSo 27 = .ok (.if_icmp .ne 17, 3) := by decide +kernel
theorem dL_isSo_30 : decode cL_isSo 30 = .ok (.aload_n 0, 1) := by decide +kernel
theorem dL_isSo_31 : decode cL_isSo 31 = .ok (.invokevirtual 90, 3) := by decide +kernel
theorem dL_isSo_34 : decode cL_isSo 34 = .ok (.aload_n 2, 1) := by decide +kernel
theorem dL_isSo_35 : decode cL_isSo 35 = .ok (.iconst 4, 1) := by decide +kernel
theorem dL_isSo_36 : decode cL_isSo 36 = .ok (.iaload, 1) := by decide +kernel
theorem dL_isSo_37 : decode cL_isSo 37 = .ok (.if_icmp .ne 7, 3) := by decide +kernel
theorem dL_isSo_40 : decode cL_isSo 40 = .ok (.iconst 1, 1) := by decide +kernel
theorem dL_isSo_41 : decode cL_isSo 41 = .ok (.goto 4, 3) := by decide +kernel
theorem dL_isSo_44 : decode cL_isSo 44 = .ok (.iconst 0, 1) := by decide +kernel
theorem dL_isSo_45 : decode cL_isSo 45 = .ok (.istore_n 3, 1) := by decide +kernel
theorem dL_isSo_46 : decode cL_isSo 46 = .ok (.iconst 0, 1) := by decide +kernel
theorem dL_isSo_47 : decode cL_isSo 47 = .ok (.istore 4, 2) := by decide +kernel
theorem dL_isSo_49 : decode cL_isSo 49 = .ok (.iconst 0, 1) := by decide +kernel
theorem dL_isSo_50 : decode cL_isSo 50 = .ok (.istore 5, 2) := by decide +kernel
theorem dL_isSo_52 : decode cL_isSo 52 = .ok (.iload 5, 2) := by decide +kernel
theorem dL_isSo_54 : decode cL_isSo 54 = .ok (.bipush 16, 2) := by decide +kernel
theorem dL_isSo_56 : decode cL_isSo 56 = .ok (.if_icmp .ge 158, 3) := by decide +kernel
theorem dL_isSo_59 : decode cL_isSo 59 = .ok (.iload_n 3, 1) := by decide +kernel
theorem dL_isSo_60 : decode cL_isSo 60 = .ok (.ifCond .eq 154, 3) := by decide +kernel
theorem dL_isSo_63 : decode cL_isSo 63 = .ok (.iload 5, 2) := by decide +kernel
theorem dL_isSo_65 : decode cL_isSo 65 = .ok (.bipush 15, 2) := by decide +kernel
theorem dL_isSo_67 : decode cL_isSo 67 = .ok (.if_icmp .ge 28, 3) := by decide +kernel
theorem dL_isSo_70 : decode cL_isSo 70 = .ok (.aload_n 2, 1) := by decide +kernel
theorem dL_isSo_71 : decode cL_isSo 71 = .ok (.iconst 2, 1) := by decide +kernel
theorem dL_isSo_72 : decode cL_isSo 72 = .ok (.iaload, 1) := by decide +kernel
theorem dL_isSo_73 : decode cL_isSo 73 = .ok (.ifCond .lt 22, 3) := by decide +kernel
theorem dL_isSo_76 : decode cL_isSo 76 = .ok (.aload_n 1, 1) := by decide +kernel
theorem dL_isSo_77 : decode cL_isSo 77 = .ok (.aload_n 2, 1) := by decide +kernel
theorem dL_isSo_78 : decode cL_isSo 78 = .ok (.iconst 1, 1) := by decide +kernel
theorem dL_isSo_79 : decode cL_isSo 79 = .ok (.iaload, 1) := by decide +kernel
theorem dL_isSo_80 : decode cL_isSo 80 = .ok (.iload 5, 2) := by decide +kernel
theorem dL_isSo_82 : decode cL_isSo 82 = .ok (.aload_n 2, 1) := by decide +kernel
theorem dL_isSo_83 : decode cL_isSo 83 = .ok (.iconst 2, 1) := by decide +kernel
theorem dL_isSo_84 : decode cL_isSo 84 = .ok (.iaload, 1) := by decide +kernel
theorem dL_isSo_85 : decode cL_isSo 85 = .ok (.invokestatic 37, 3) := by decide +kernel
theorem dL_isSo_88 : decode cL_isSo 88 = .ok (.ifCond .eq 7, 3) := by decide +kernel
theorem dL_isSo_91 : decode cL_isSo 91 = .ok (.iconst 1, 1) := by decide +kernel
theorem dL_isSo_92 : decode cL_isSo 92 = .ok (.goto 4, 3) := by decide +kernel
theorem dL_isSo_95 : decode cL_isSo 95 = .ok (.iconst 0, 1) := by decide +kernel
theorem dL_isSo_96 : decode cL_isSo 96 = .ok (.istore 6, 2) := by decide +kernel
theorem dL_isSo_98 : decode cL_isSo 98 = .ok (.aload_n 0, 1) := by decide +kernel
theorem dL_isSo_99 : decode cL_isSo 99 = .ok (.iconst 0, 1) := by decide +kernel
theorem dL_isSo_100 : decode cL_isSo 100 = .ok (.iload 5, 2) := by decide +kernel
theorem dL_isSo_102 : decode cL_isSo 102 = .ok (.invokevirtual 93, 3) := by decide +kernel
theorem dL_isSo_105 : decode cL_isSo 105 = .ok (.aload_n 1, 1) := by decide +kernel
theorem dL_isSo_106 : decode cL_isSo 106 = .ok (.iload 5, 2) := by decide +kernel
theorem dL_isSo_108 : decode cL_isSo 108 = .ok (.iaload, 1) := by decide +kernel
theorem dL_isSo_109 : decode cL_isSo 109 = .ok (.if_icmp .ne 82, 3) := by decide +kernel
theorem dL_isSo_112 : decode cL_isSo 112 = .ok (.aload_n 0, 1) := by decide +kernel
theorem dL_isSo_113 : decode cL_isSo 113 = .ok (.iconst 1, 1) := by decide +kernel
theorem dL_isSo_114 : decode cL_isSo 114 = .ok (.iload 5, 2) := by decide +kernel
theorem dL_isSo_116 : decode cL_isSo 116 = .ok (.invokevirtual 93, 3) := by decide +kernel
theorem dL_isSo_119 : decode cL_isSo 119 = .ok (.aload_n 1, 1) := by decide +kernel
theorem dL_isSo_120 : decode cL_isSo 120 = .ok (.bipush 16, 2) := by decide +kernel
theorem dL_isSo_122 : decode cL_isSo 122 = .ok (.iload 5, 2) := by decide +kernel
theorem dL_isSo_124 : decode cL_isSo 124 = .ok (.iadd, 1) := by decide +kernel
theorem dL_isSo_125 : decode cL_isSo 125 = .ok (.iaload, 1) := by decide +kernel
theorem dL_isSo_126 : decode cL_isSo 126 = .ok (.if_icmp .ne 65, 3) := by decide +kernel
theorem dL_isSo_129 : decode cL_isSo 129 = .ok (.iload 5, 2) := by decide +kernel
theorem dL_isSo_131 : decode cL_isSo 131 = .ok (.bipush 15, 2) := by decide +kernel
theorem dL_isSo_133 : decode cL_isSo 133 = .ok (.if_icmp .eq 38, 3) := by decide +kernel
theorem dL_isSo_136 : decode cL_isSo 136 = .ok (.aload_n 0, 1) := by decide +kernel
theorem dL_isSo_137 : decode cL_isSo 137 = .ok (.iload 5, 2) := by decide +kernel
theorem dL_isSo_139 : decode cL_isSo 139 = .ok (.invokevirtual 96, 3) := by decide +kernel
theorem dL_isSo_142 : decode cL_isSo 142 = .ok (.iload 6, 2) := by decide +kernel
theorem dL_isSo_144 : decode cL_isSo 144 = .ok (.ifCond .eq 23, 3) := by decide +kernel
theorem dL_isSo_147 : decode cL_isSo 147 = .ok (.aload_n 1, 1) := by decide +kernel
theorem dL_isSo_148 : decode cL_isSo 148 = .ok (.aload_n 2, 1) := by decide +kernel
theorem dL_isSo_149 : decode cL_isSo 149 = .ok (.iconst 1, 1) := by decide +kernel
theorem dL_isSo_150 : decode cL_isSo 150 = .ok (.iaload, 1) := by decide +kernel
theorem dL_isSo_151 : decode cL_isSo 151 = .ok (.iload 5, 2) := by decide +kernel
theorem dL_isSo_153 : decode cL_isSo 153 = .ok (.aload_n 2, 1) := by decide +kernel
theorem dL_isSo_154 : decode cL_isSo 154 = .ok (.iconst 2, 1) := by decide +kernel
theorem dL_isSo_155 : decode cL_isSo 155 = .ok (.iaload, 1) := by decide +kernel
theorem dL_isSo_156 : decode cL_isSo 156 = .ok (.iadd, 1) := by decide +kernel
theorem dL_isSo_157 : decode cL_isSo 157 = .ok (.invokestatic 21, 3) := by decide +kernel
theorem dL_isSo_160 : decode cL_isSo 160 = .ok (.ifCond .eq 7, 3) := by decide +kernel
theorem dL_isSo_163 : decode cL_isSo 163 = .ok (.iconst 1, 1) := by decide +kernel
theorem dL_isSo_164 : decode cL_isSo 164 = .ok (.goto 4, 3) := by decide +kernel
theorem dL_isSo_167 : decode cL_isSo 167 = .ok (.iconst 0, 1) := by decide +kernel
theorem dL_isSo_168 : decode cL_isSo 168 = .ok (.if_icmp .ne 23, 3) := by decide +kernel
theorem dL_isSo_171 : decode cL_isSo 171 = .ok (.iload 6, 2) := by decide +kernel
theorem dL_isSo_173 : decode cL_isSo 173 = .ok (.ifCond .eq 14, 3) := by decide +kernel
theorem dL_isSo_176 : decode cL_isSo 176 = .ok (.aload_n 0, 1) := by decide +kernel
theorem dL_isSo_177 : decode cL_isSo 177 = .ok (.iload 4, 2) := by decide +kernel
theorem dL_isSo_179 : decode cL_isSo 179 = .ok (.invokevirtual 100, 3) := by decide +kernel
theorem dL_isSo_182 : decode cL_isSo 182 = .ok (.iload 5, 2) := by decide +kernel
theorem dL_isSo_184 : decode cL_isSo 184 = .ok (.if_icmp .ne 7, 3) := by decide +kernel
theorem dL_isSo_187 : decode cL_isSo 187 = .ok (.iconst 1, 1) := by decide +kernel
theorem dL_isSo_188 : decode cL_isSo 188 = .ok (.goto 4, 3) := by decide +kernel
theorem dL_isSo_191 : decode cL_isSo 191 = .ok (.iconst 0, 1) := by decide +kernel
theorem dL_isSo_192 : decode cL_isSo 192 = .ok (.istore_n 3, 1) := by decide +kernel
theorem dL_isSo_193 : decode cL_isSo 193 = .ok (.iload 4, 2) := by decide +kernel
theorem dL_isSo_195 : decode cL_isSo 195 = .ok (.iload 6, 2) := by decide +kernel
theorem dL_isSo_197 : decode cL_isSo 197 = .ok (.ifCond .eq 7, 3) := by decide +kernel
theorem dL_isSo_200 : decode cL_isSo 200 = .ok (.iconst 1, 1) := by decide +kernel
theorem dL_isSo_201 : decode cL_isSo 201 = .ok (.goto 4, 3) := by decide +kernel
theorem dL_isSo_204 : decode cL_isSo 204 = .ok (.iconst 0, 1) := by decide +kernel
theorem dL_isSo_205 : decode cL_isSo 205 = .ok (.iadd, 1) := by decide +kernel
theorem dL_isSo_206 : decode cL_isSo 206 = .ok (.istore 4, 2) := by decide +kernel
theorem dL_isSo_208 : decode cL_isSo 208 = .ok (.iinc 5 1, 3) := by decide +kernel
theorem dL_isSo_211 : decode cL_isSo 211 = .ok (.goto (-159), 3) := by decide +kernel
theorem dL_isSo_214 : decode cL_isSo 214 = .ok (.iload_n 3, 1) := by decide +kernel
theorem dL_isSo_215 : decode cL_isSo 215 = .ok (.ifCond .eq 84, 3) := by decide +kernel
theorem dL_isSo_218 : decode cL_isSo 218 = .ok (.aload_n 0, 1) := by decide +kernel
theorem dL_isSo_219 : decode cL_isSo 219 = .ok (.invokevirtual 103, 3) := by decide +kernel
theorem dL_isSo_222 : decode cL_isSo 222 = .ok (.iload 4, 2) := by decide +kernel
theorem dL_isSo_224 : decode cL_isSo 224 = .ok (.if_icmp .ne 75, 3) := by decide +kernel
theorem dL_isSo_227 : decode cL_isSo 227 = .ok (.aload_n 0, 1) := by decide +kernel
theorem dL_isSo_228 : decode cL_isSo 228 = .ok (.iload 4, 2) := by decide +kernel
theorem dL_isSo_230 : decode cL_isSo 230 = .ok (.invokevirtual 100, 3) := by decide +kernel
theorem dL_isSo_233 : decode cL_isSo 233 = .ok (.iconst (-1), 1) := by decide +kernel
theorem dL_isSo_234 : decode cL_isSo 234 = .ok (.if_icmp .ne 65, 3) := by decide +kernel
theorem dL_isSo_237 : decode cL_isSo 237 = .ok (.aload_n 0, 1) := by decide +kernel
theorem dL_isSo_238 : decode cL_isSo 238 = .ok (.iconst (-1), 1) := by decide +kernel
theorem dL_isSo_239 : decode cL_isSo 239 = .ok (.invokevirtual 100, 3) := by decide +kernel
theorem dL_isSo_242 : decode cL_isSo 242 = .ok (.iconst (-1), 1) := by decide +kernel
theorem dL_isSo_243 : decode cL_isSo 243 = .ok (.if_icmp .ne 56, 3) := by decide +kernel
theorem dL_isSo_246 : decode cL_isSo 246 = .ok (.aload_n 0, 1) := by decide +kernel
theorem dL_isSo_247 : decode cL_isSo 247 = .ok (.iconst 0, 1) := by decide +kernel
theorem dL_isSo_248 : decode cL_isSo 248 = .ok (.invokevirtual 106, 3) := by decide +kernel
theorem dL_isSo_251 : decode cL_isSo 251 = .ok (.aload_n 1, 1) := by decide +kernel
theorem dL_isSo_252 : decode cL_isSo 252 = .ok (.iconst 0, 1) := by decide +kernel
theorem dL_isSo_253 : decode cL_isSo 253 = .ok (.invokestatic 33, 3) := by decide +kernel
theorem dL_isSo_256 : decode cL_isSo 256 = .ok (.if_icmp .ne 43, 3) := by decide +kernel
theorem dL_isSo_259 : decode cL_isSo 259 = .ok (.aload_n 0, 1) := by decide +kernel
theorem dL_isSo_260 : decode cL_isSo 260 = .ok (.iconst 1, 1) := by decide +kernel
theorem dL_isSo_261 : decode cL_isSo 261 = .ok (.invokevirtual 106, 3) := by decide +kernel
theorem dL_isSo_264 : decode cL_isSo 264 = .ok (.aload_n 1, 1) := by decide +kernel
theorem dL_isSo_265 : decode cL_isSo 265 = .ok (.iconst 1, 1) := by decide +kernel
theorem dL_isSo_266 : decode cL_isSo 266 = .ok (.invokestatic 33, 3) := by decide +kernel
theorem dL_isSo_269 : decode cL_isSo 269 = .ok (.if_icmp .ne 30, 3) := by decide +kernel
theorem dL_isSo_272 : decode cL_isSo 272 = .ok (.aload_n 0, 1) := by decide +kernel
theorem dL_isSo_273 : decode cL_isSo 273 = .ok (.iconst 0, 1) := by decide +kernel
theorem dL_isSo_274 : decode cL_isSo 274 = .ok (.invokevirtual 108, 3) := by decide +kernel
theorem dL_isSo_277 : decode cL_isSo 277 = .ok (.aload_n 2, 1) := by decide +kernel
theorem dL_isSo_278 : decode cL_isSo 278 = .ok (.iconst 5, 1) := by decide +kernel
theorem dL_isSo_279 : decode cL_isSo 279 = .ok (.iaload, 1) := by decide +kernel
theorem dL_isSo_280 : decode cL_isSo 280 = .ok (.if_icmp .ne 19, 3) := by decide +kernel
theorem dL_isSo_283 : decode cL_isSo 283 = .ok (.aload_n 0, 1) := by decide +kernel
theorem dL_isSo_284 : decode cL_isSo 284 = .ok (.iconst 1, 1) := by decide +kernel
theorem dL_isSo_285 : decode cL_isSo 285 = .ok (.invokevirtual 108, 3) := by decide +kernel
theorem dL_isSo_288 : decode cL_isSo 288 = .ok (.aload_n 2, 1) := by decide +kernel
theorem dL_isSo_289 : decode cL_isSo 289 = .ok (.bipush 6, 2) := by decide +kernel
theorem dL_isSo_291 : decode cL_isSo 291 = .ok (.iaload, 1) := by decide +kernel
theorem dL_isSo_292 : decode cL_isSo 292 = .ok (.if_icmp .ne 7, 3) := by decide +kernel
theorem dL_isSo_295 : decode cL_isSo 295 = .ok (.iconst 1, 1) := by decide +kernel
theorem dL_isSo_296 : decode cL_isSo 296 = .ok (.goto 4, 3) := by decide +kernel
theorem dL_isSo_299 : decode cL_isSo 299 = .ok (.iconst 0, 1) := by decide +kernel
theorem dL_isSo_300 : decode cL_isSo 300 = .ok (.ireturn, 1) := by decide +kernel
theorem dL_begin_0 : decode cL_begin 0 = .ok (.iconst 0, 1) := by decide +kernel
theorem dL_begin_1 : decode cL_begin 1 = .ok (.istore_n 3, 1) := by decide +kernel
theorem dL_begin_2 : decode cL_begin 2 = .ok (.iload_n 3, 1) := by decide +kernel
theorem dL_begin_3 : decode cL_begin 3 = .ok (.bipush 32, 2) := by decide +kernel
theorem dL_begin_5 : decode cL_begin 5 = .ok (.if_icmp .ge 24, 3) := by decide +kernel
theorem dL_begin_8 : decode cL_begin 8 = .ok (.aload_n 1, 1) := by decide +kernel
theorem dL_begin_9 : decode cL_begin 9 = .ok (.iload_n 3, 1) := by decide +kernel
theorem dL_begin_10 : decode cL_begin 10 = .ok (.iload_n 3, 1) := by decide +kernel
theorem dL_begin_11 : decode cL_begin 11 = .ok (.bipush 16, 2) := by decide +kernel
theorem dL_begin_13 : decode cL_begin 13 = .ok (.irem, 1) := by decide +kernel
theorem dL_begin_14 : decode cL_begin 14 = .ok (.ifCond .ne 7, 3) := by decide +kernel
theorem dL_begin_17 : decode cL_begin 17 = .ok (.iload_n 0, 1) := by decide +kernel
theorem dL_begin_18 : decode cL_begin 18 = .ok (.goto 4, 3) := by decide +kernel
theorem dL_begin_21 : decode cL_begin 21 = .ok (.iconst 0, 1) := by decide +kernel
theorem dL_begin_22 : decode cL_begin 22 = .ok (.iastore, 1) := by decide +kernel
theorem dL_begin_23 : decode cL_begin 23 = .ok (.iinc 3 1, 3) := by decide +kernel
theorem dL_begin_26 : decode cL_begin 26 = .ok (.goto (-24), 3) := by decide +kernel
theorem dL_begin_29 : decode cL_begin 29 = .ok (.aload_n 2, 1) := by decide +kernel
theorem dL_begin_30 : decode cL_begin 30 = .ok (.iconst 0, 1) := by decide +kernel
theorem dL_begin_31 : decode cL_begin 31 = .ok (.iload_n 0, 1) := by decide +kernel
theorem dL_begin_32 : decode cL_begin 32 = .ok (.iastore, 1) := by decide +kernel
theorem dL_begin_33 : decode cL_begin 33 = .ok (.aload_n 2, 1) := by decide +kernel
theorem dL_begin_34 : decode cL_begin 34 = .ok (.iconst 1, 1) := by decide +kernel
theorem dL_begin_35 : decode cL_begin 35 = .ok (.iconst 0, 1) := by decide +kernel
theorem dL_begin_36 : decode cL_begin 36 = .ok (.iastore, 1) := by decide +kernel
theorem dL_begin_37 : decode cL_begin 37 = .ok (.aload_n 2, 1) := by decide +kernel
theorem dL_begin_38 : decode cL_begin 38 = .ok (.iconst 2, 1) := by decide +kernel
theorem dL_begin_39 : decode cL_begin 39 = .ok (.iconst (-1), 1) := by decide +kernel
theorem dL_begin_40 : decode cL_begin 40 = .ok (.iastore, 1) := by decide +kernel
theorem dL_begin_41 : decode cL_begin 41 = .ok (.aload_n 2, 1) := by decide +kernel
theorem dL_begin_42 : decode cL_begin 42 = .ok (.iconst 3, 1) := by decide +kernel
theorem dL_begin_43 : decode cL_begin 43 = .ok (.iconst (-1), 1) := by decide +kernel
theorem dL_begin_44 : decode cL_begin 44 = .ok (.iastore, 1) := by decide +kernel
theorem dL_begin_45 : decode cL_begin 45 = .ok (.aload_n 2, 1) := by decide +kernel
theorem dL_begin_46 : decode cL_begin 46 = .ok (.iconst 4, 1) := by decide +kernel
theorem dL_begin_47 : decode cL_begin 47 = .ok (.iconst 0, 1) := by decide +kernel
theorem dL_begin_48 : decode cL_begin 48 = .ok (.iastore, 1) := by decide +kernel
theorem dL_begin_49 : decode cL_begin 49 = .ok (.aload_n 2, 1) := by decide +kernel
theorem dL_begin_50 : decode cL_begin 50 = .ok (.iconst 5, 1) := by decide +kernel
theorem dL_begin_51 : decode cL_begin 51 = .ok (.iconst 0, 1) := by decide +kernel
theorem dL_begin_52 : decode cL_begin 52 = .ok (.iastore, 1) := by decide +kernel
theorem dL_begin_53 : decode cL_begin 53 = .ok (.aload_n 2, 1) := by decide +kernel
theorem dL_begin_54 : decode cL_begin 54 = .ok (.bipush 6, 2) := by decide +kernel
theorem dL_begin_56 : decode cL_begin 56 = .ok (.iconst 0, 1) := by decide +kernel
theorem dL_begin_57 : decode cL_begin 57 = .ok (.iastore, 1) := by decide +kernel
theorem dL_begin_58 : decode cL_begin 58 = .ok (.return_, 1) := by decide +kernel
theorem dL_turn_0 : decode cL_turn 0 = .ok (.iload_n 1, 1) := by decide +kernel
theorem dL_turn_1 : decode cL_turn 1 = .ok (.bipush 16, 2) := by decide +kernel
theorem dL_turn_3 : decode cL_turn 3 = .ok (.invokestatic 111, 3) := by decide +kernel
theorem dL_turn_6 : decode cL_turn 6 = .ok (.istore 4, 2) := by decide +kernel
theorem dL_turn_8 : decode cL_turn 8 = .ok (.iload 4, 2) := by decide +kernel
theorem dL_turn_10 : decode cL_turn 10 = .ok (.ifCond .ne 7, 3) := by decide +kernel
theorem dL_turn_13 : decode cL_turn 13 = .ok (.iconst 0, 1) := by decide +kernel
theorem dL_turn_14 : decode cL_turn 14 = .ok (.goto 36, 3) := by decide +kernel
theorem dL_turn_17 : decode cL_turn 17 = .ok (.iload 4, 2) := by decide +kernel
theorem dL_turn_19 : decode cL_turn 19 = .ok (.iconst 5, 1) := by decide +kernel
theorem dL_turn_20 : decode cL_turn 20 = .ok (.if_icmp .ge 7, 3) := by decide +kernel
theorem dL_turn_23 : decode cL_turn 23 = .ok (.iconst 1, 1) := by decide +kernel
theorem dL_turn_24 : decode cL_turn 24 = .ok (.goto 26, 3) := by decide +kernel
theorem dL_turn_27 : decode cL_turn 27 = .ok (.iload 4, 2) := by decide +kernel
theorem dL_turn_29 : decode cL_turn 29 = .ok (.bipush 11, 2) := by decide +kernel
theorem dL_turn_31 : decode cL_turn 31 = .ok (.if_icmp .ge 7, 3) := by decide +kernel
theorem dL_turn_34 : decode cL_turn 34 = .ok (.iconst 2, 1) := by decide +kernel
theorem dL_turn_35 : decode cL_turn 35 = .ok (.goto 15, 3) := by decide +kernel
theorem dL_turn_38 : decode cL_turn 38 = .ok (.iload 4, 2) := by decide +kernel
theorem dL_turn_40 : decode cL_turn 40 = .ok (.bipush 15, 2) := by decide +kernel
theorem dL_turn_42 : decode cL_turn 42 = .ok (.if_icmp .ge 7, 3) := by decide +kernel
theorem dL_turn_45 : decode cL_turn 45 = .ok (.iconst 3, 1) := by decide +kernel
theorem dL_turn_46 : decode cL_turn 46 = .ok (.goto 4, 3) := by decide +kernel
theorem dL_turn_49 : decode cL_turn 49 = .ok (.iconst 4, 1) := by decide +kernel
theorem dL_turn_50 : decode cL_turn 50 = .ok (.istore 4, 2) := by decide +kernel
theorem dL_turn_52 : decode cL_turn 52 = .ok (.iconst 0, 1) := by decide +kernel
theorem dL_turn_53 : decode cL_turn 53 = .ok (.istore 5, 2) := by decide +kernel
theorem dL_turn_55 : decode cL_turn 55 = .ok (.iconst 0, 1) := by decide +kernel
theorem dL_turn_56 : decode cL_turn 56 = .ok (.istore 6, 2) := by decide +kernel
theorem dL_turn_58 : decode cL_turn 58 = .ok (.iload 6, 2) := by decide +kernel
theorem dL_turn_60 : decode cL_turn 60 = .ok (.bipush 15, 2) := by decide +kernel
theorem dL_turn_62 : decode cL_turn 62 = .ok (.if_icmp .ge 45, 3) := by decide +kernel
theorem dL_turn_65 : decode cL_turn 65 = .ok (.iload 5, 2) := by decide +kernel
theorem dL_turn_67 : decode cL_turn 67 = .ok (.aload_n 2, 1) := by decide +kernel
theorem dL_turn_68 : decode cL_turn 68 = .ok (.aload_n 3, 1) := by decide +kernel
theorem dL_turn_69 : decode cL_turn 69 = .ok (.iconst 1, 1) := by decide +kernel
theorem dL_turn_70 : decode cL_turn 70 = .ok (.iaload, 1) := by decide +kernel
theorem dL_turn_71 : decode cL_turn 71 = .ok (.iload 6, 2) := by decide +kernel
theorem dL_turn_73 : decode cL_turn 73 = .ok (.aload_n 3, 1) := by decide +kernel
theorem dL_turn_74 : decode cL_turn 74 = .ok (.iconst 2, 1) := by decide +kernel
theorem dL_turn_75 : decode cL_turn 75 = .ok (.iaload, 1) := by decide +kernel
theorem dL_turn_76 : decode cL_turn 76 = .ok (.ifCond .ge 8, 3) := by decide +kernel
theorem dL_turn_79 : decode cL_turn 79 = .ok (.iload 4, 2) := by decide +kernel
theorem dL_turn_81 : decode cL_turn 81 = .ok (.goto 6, 3) := by decide +kernel
theorem dL_turn_84 : decode cL_turn 84 = .ok (.aload_n 3, 1) := by decide +kernel
theorem dL_turn_85 : decode cL_turn 85 = .ok (.iconst 2, 1) := by decide +kernel
theorem dL_turn_86 : decode cL_turn 86 = .ok (.iaload, 1) := by decide +kernel
theorem dL_turn_87 : decode cL_turn 87 = .ok (.invokestatic 37, 3) := by decide +kernel
theorem dL_turn_90 : decode cL_turn 90 = .ok (.ifCond .eq 7, 3) := by decide +kernel
theorem dL_turn_93 : decode cL_turn 93 = .ok (.iconst 1, 1) := by decide +kernel
theorem dL_turn_94 : decode cL_turn 94 = .ok (.goto 4, 3) := by decide +kernel
theorem dL_turn_97 : decode cL_turn 97 = .ok (.iconst 0, 1) := by decide +kernel
theorem dL_turn_98 : decode cL_turn 98 = .ok (.iadd, 1) := by decide +kernel
theorem dL_turn_99 : decode cL_turn 99 = .ok (.istore 5, 2) := by decide +kernel
theorem dL_turn_101 : decode cL_turn 101 = .ok (.iinc 6 1, 3) := by decide +kernel
theorem dL_turn_104 : decode cL_turn 104 = .ok (.goto (-46), 3) := by decide +kernel
theorem dL_turn_107 : decode cL_turn 107 = .ok (.aload_n 3, 1) := by decide +kernel
theorem dL_turn_108 : decode cL_turn 108 = .ok (.iconst 2, 1) := by decide +kernel
theorem dL_turn_109 : decode cL_turn 109 = .ok (.iaload, 1) := by decide +kernel
theorem dL_turn_110 : decode cL_turn 110 = .ok (.ifCond .ge 100, 3) := by decide +kernel
theorem dL_turn_113 : decode cL_turn 113 = .ok (.aload_n 3, 1) := by decide +kernel
theorem dL_turn_114 : decode cL_turn 114 = .ok (.iconst 3, 1) := by decide +kernel
theorem dL_turn_115 : decode cL_turn 115 = .ok (.iaload, 1) := by decide +kernel
theorem dL_turn_116 : decode cL_turn 116 = .ok (.ifCond .ge 7, 3) := by decide +kernel
theorem dL_turn_119 : decode cL_turn 119 = .ok (.iconst 1, 1) := by decide +kernel
theorem dL_turn_120 : decode cL_turn 120 = .ok (.goto 4, 3) := by decide +kernel
theorem dL_turn_123 : decode cL_turn 123 = .ok (.iconst 0, 1) := by decide +kernel
theorem dL_turn_124 : decode cL_turn 124 = .ok (.istore 6, 2) := by decide +kernel
theorem dL_turn_126 : decode cL_turn 126 = .ok (.aload_n 0, 1) := by decide +kernel
theorem dL_turn_127 : decode cL_turn 127 = .ok (.iload 4, 2) := by decide +kernel
theorem dL_turn_129 : decode cL_turn 129 = .ok (.invokestatic 114, 3) := by decide +kernel
theorem dL_turn_132 : decode cL_turn 132 = .ok (.iload 6, 2) := by decide +kernel
theorem dL_turn_134 : decode cL_turn 134 = .ok (.ifCond .eq 8, 3) := by decide +kernel
theorem dL_turn_137 : decode cL_turn 137 = .ok (.iload 5, 2) := by decide +kernel
theorem dL_turn_139 : decode cL_turn 139 = .ok (.goto 5, 3) := by decide +kernel
theorem dL_turn_142 : decode cL_turn 142 = .ok (.bipush (-3), 2) := by decide +kernel
theorem dL_turn_144 : decode cL_turn 144 = .ok (.if_icmp .eq 5, 3) := by decide +kernel
theorem dL_turn_147 : decode cL_turn 147 = .ok (.iconst 0, 1) := by decide +kernel
theorem dL_turn_148 : decode cL_turn 148 = .ok (.ireturn, 1) := by decide +kernel
theorem dL_turn_149 : decode cL_turn 149 = .ok (.aload_n 3, 1) := by decide +kernel
theorem dL_turn_150 : decode cL_turn 150 = .ok (.iconst 4, 1) := by decide +kernel
theorem dL_turn_151 : decode cL_turn 151 = .ok (.dup2, 1) := by decide +kernel
theorem dL_turn_152 : decode cL_turn 152 = .ok (.iaload, 1) := by decide +kernel
theorem dL_turn_153 : decode cL_turn 153 = .ok (.iload 6, 2) := by decide +kernel
theorem dL_turn_155 : decode cL_turn 155 = .ok (.ifCond .eq 7, 3) := by decide +kernel
theorem dL_turn_158 : decode cL_turn 158 = .ok (.iconst 1, 1) := by decide +kernel
theorem dL_turn_159 : decode cL_turn 159 = .ok (.goto 4, 3) := by decide +kernel
theorem dL_turn_162 : decode cL_turn 162 = .ok (.iconst 0, 1) := by decide +kernel
theorem dL_turn_163 : decode cL_turn 163 = .ok (.iadd, 1) := by decide +kernel
theorem dL_turn_164 : decode cL_turn 164 = .ok (.iastore, 1) := by decide +kernel
theorem dL_turn_165 : decode cL_turn 165 = .ok (.aload_n 3, 1) := by decide +kernel
theorem dL_turn_166 : decode cL_turn 166 = .ok (.iconst 2, 1) := by decide +kernel
theorem dL_turn_167 : decode cL_turn 167 = .ok (.iload 6, 2) := by decide +kernel
theorem dL_turn_169 : decode cL_turn 169 = .ok (.ifCond .eq 13, 3) := by decide +kernel
theorem dL_turn_172 : decode cL_turn 172 = .ok (.iload 5, 2) := by decide +kernel
theorem dL_turn_174 : decode cL_turn 174 = .ok (.ifCond .le 8, 3) := by decide +kernel
theorem dL_turn_177 : decode cL_turn 177 = .ok (.iload 4, 2) := by decide +kernel
theorem dL_turn_179 : decode cL_turn 179 = .ok (.goto 4, 3) := by decide +kernel
theorem dL_turn_182 : decode cL_turn 182 = .ok (.iconst (-1), 1) := by decide +kernel
theorem dL_turn_183 : decode cL_turn 183 = .ok (.iastore, 1) := by decide +kernel
theorem dL_turn_184 : decode cL_turn 184 = .ok (.aload_n 3, 1) := by decide +kernel
theorem dL_turn_185 : decode cL_turn 185 = .ok (.iconst 1, 1) := by decide +kernel
theorem dL_turn_186 : decode cL_turn 186 = .ok (.iload 6, 2) := by decide +kernel
theorem dL_turn_188 : decode cL_turn 188 = .ok (.ifCond .eq 16, 3) := by decide +kernel
theorem dL_turn_191 : decode cL_turn 191 = .ok (.iload 5, 2) := by decide +kernel
theorem dL_turn_193 : decode cL_turn 193 = .ok (.ifCond .ne 11, 3) := by decide +kernel
theorem dL_turn_196 : decode cL_turn 196 = .ok (.iconst 1, 1) := by decide +kernel
theorem dL_turn_197 : decode cL_turn 197 = .ok (.aload_n 3, 1) := by decide +kernel
theorem dL_turn_198 : decode cL_turn 198 = .ok (.iconst 1, 1) := by decide +kernel
theorem dL_turn_199 : decode cL_turn 199 = .ok (.iaload, 1) := by decide +kernel
theorem dL_turn_200 : decode cL_turn 200 = .ok (.isub, 1) := by decide +kernel
theorem dL_turn_201 : decode cL_turn 201 = .ok (.goto 6, 3) := by decide +kernel
theorem dL_turn_204 : decode cL_turn 204 = .ok (.aload_n 3, 1) := by decide +kernel
theorem dL_turn_205 : decode cL_turn 205 = .ok (.iconst 1, 1) := by decide +kernel
theorem dL_turn_206 : decode cL_turn 206 = .ok (.iaload, 1) := by decide +kernel
theorem dL_turn_207 : decode cL_turn 207 = .ok (.iastore, 1) := by decide +kernel
theorem dL_turn_208 : decode cL_turn 208 = .ok (.iconst 1, 1) := by decide +kernel
theorem dL_turn_209 : decode cL_turn 209 = .ok (.ireturn, 1) := by decide +kernel
theorem dL_turn_210 : decode cL_turn 210 = .ok (.iload_n 1, 1) := by decide +kernel
theorem dL_turn_211 : decode cL_turn 211 = .ok (.iconst 4, 1) := by decide +kernel
theorem dL_turn_212 : decode cL_turn 212 = .ok (.ishr, 1) := by decide +kernel
theorem dL_turn_213 : decode cL_turn 213 = .ok (.bipush 15, 2) := by decide +kernel
theorem dL_turn_215 : decode cL_turn 215 = .ok (.invokestatic 111, 3) := by decide +kernel
theorem dL_turn_218 : decode cL_turn 218 = .ok (.istore 6, 2) := by decide +kernel
theorem dL_turn_220 : decode cL_turn 220 = .ok (.iconst 0, 1) := by decide +kernel
theorem dL_turn_221 : decode cL_turn 221 = .ok (.istore 7, 2) := by decide +kernel
theorem dL_turn_223 : decode cL_turn 223 = .ok (.iload 7, 2) := by decide +kernel
theorem dL_turn_225 : decode cL_turn 225 = .ok (.bipush 15, 2) := by decide +kernel
theorem dL_turn_227 : decode cL_turn 227 = .ok (.if_icmp .ge 44, 3) := by decide +kernel
theorem dL_turn_230 : decode cL_turn 230 = .ok (.iload_n 1, 1) := by decide +kernel
theorem dL_turn_231 : decode cL_turn 231 = .ok (.bipush 9, 2) := by decide +kernel
theorem dL_turn_233 : decode cL_turn 233 = .ok (.ishr, 1) := by decide +kernel
theorem dL_turn_234 : decode cL_turn 234 = .ok (.iconst 4, 1) := by decide +kernel
theorem dL_turn_235 : decode cL_turn 235 = .ok (.invokestatic 111, 3) := by decide +kernel
theorem dL_turn_238 : decode cL_turn 238 = .ok (.ifCond .le 33, 3) := by decide +kernel
theorem dL_turn_241 : decode cL_turn 241 = .ok (.aload_n 2, 1) := by decide +kernel
theorem dL_turn_242 : decode cL_turn 242 = .ok (.aload_n 3, 1) := by decide +kernel
theorem dL_turn_243 : decode cL_turn 243 = .ok (.iconst 1, 1) := by decide +kernel
theorem dL_turn_244 : decode cL_turn 244 = .ok (.iaload, 1) := by decide +kernel
theorem dL_turn_245 : decode cL_turn 245 = .ok (.iload 6, 2) := by decide +kernel
theorem dL_turn_247 : decode cL_turn 247 = .ok (.aload_n 3, 1) := by decide +kernel
theorem dL_turn_248 : decode cL_turn 248 = .ok (.iconst 2, 1) := by decide +kernel
theorem dL_turn_249 : decode cL_turn 249 = .ok (.iaload, 1) := by decide +kernel
theorem dL_turn_250 : decode cL_turn 250 = .ok (.invokestatic 37, 3) := by decide +kernel
theorem dL_turn_253 : decode cL_turn 253 = .ok (.ifCond .ne 18, 3) := by decide +kernel
theorem dL_turn_256 : decode cL_turn 256 = .ok (.iload 6, 2) := by decide +kernel
theorem dL_turn_258 : decode cL_turn 258 = .ok (.iconst 1, 1) := by decide +kernel
theorem dL_turn_259 : decode cL_turn 259 = .ok (.iadd, 1) := by decide +kernel
theorem dL_turn_260 : decode cL_turn 260 = .ok (.bipush 15, 2) := by decide +kernel
theorem dL_turn_262 : decode cL_turn 262 = .ok (.irem, 1) := by decide +kernel
theorem dL_turn_263 : decode cL_turn 263 = .ok (.istore 6, 2) := by decide +kernel
theorem dL_turn_265 : decode cL_turn 265 = .ok (.iinc 7 1, 3) := by decide +kernel
theorem dL_turn_268 : decode cL_turn 268 = .ok (.goto (-45), 3) := by decide +kernel
theorem dL_turn_271 : decode cL_turn 271 = .ok (.aload_n 2, 1) := by decide +kernel
theorem dL_turn_272 : decode cL_turn 272 = .ok (.aload_n 3, 1) := by decide +kernel
theorem dL_turn_273 : decode cL_turn 273 = .ok (.iconst 1, 1) := by decide +kernel
theorem dL_turn_274 : decode cL_turn 274 = .ok (.iaload, 1) := by decide +kernel
theorem dL_turn_275 : decode cL_turn 275 = .ok (.iload 6, 2) := by decide +kernel
theorem dL_turn_277 : decode cL_turn 277 = .ok (.aload_n 3, 1) := by decide +kernel
theorem dL_turn_278 : decode cL_turn 278 = .ok (.iconst 2, 1) := by decide +kernel
theorem dL_turn_279 : decode cL_turn 279 = .ok (.iaload, 1) := by decide +kernel
theorem dL_turn_280 : decode cL_turn 280 = .ok (.invokestatic 37, 3) := by decide +kernel
theorem dL_turn_283 : decode cL_turn 283 = .ok (.istore 7, 2) := by decide +kernel
theorem dL_turn_285 : decode cL_turn 285 = .ok (.iload 6, 2) := by decide +kernel
theorem dL_turn_287 : decode cL_turn 287 = .ok (.aload_n 3, 1) := by decide +kernel
theorem dL_turn_288 : decode cL_turn 288 = .ok (.iconst 2, 1) := by decide +kernel
theorem dL_turn_289 : decode cL_turn 289 = .ok (.iaload, 1) := by decide +kernel
theorem dL_turn_290 : decode cL_turn 290 = .ok (.iadd, 1) := by decide +kernel
theorem dL_turn_291 : decode cL_turn 291 = .ok (.istore 8, 2) := by decide +kernel
theorem dL_turn_293 : decode cL_turn 293 = .ok (.aload_n 0, 1) := by decide +kernel
theorem dL_turn_294 : decode cL_turn 294 = .ok (.iload 4, 2) := by decide +kernel
theorem dL_turn_296 : decode cL_turn 296 = .ok (.invokestatic 114, 3) := by decide +kernel
theorem dL_turn_299 : decode cL_turn 299 = .ok (.bipush (-3), 2) := by decide +kernel
theorem dL_turn_301 : decode cL_turn 301 = .ok (.if_icmp .ne 24, 3) := by decide +kernel
theorem dL_turn_304 : decode cL_turn 304 = .ok (.aload_n 0, 1) := by decide +kernel
theorem dL_turn_305 : decode cL_turn 305 = .ok (.iload 6, 2) := by decide +kernel
theorem dL_turn_307 : decode cL_turn 307 = .ok (.invokestatic 118, 3) := by decide +kernel
theorem dL_turn_310 : decode cL_turn 310 = .ok (.iload 7, 2) := by decide +kernel
theorem dL_turn_312 : decode cL_turn 312 = .ok (.ifCond .eq 8, 3) := by decide +kernel
theorem dL_turn_315 : decode cL_turn 315 = .ok (.iload 8, 2) := by decide +kernel
theorem dL_turn_317 : decode cL_turn 317 = .ok (.goto 5, 3) := by decide +kernel
theorem dL_turn_320 : decode cL_turn 320 = .ok (.bipush (-3), 2) := by decide +kernel
theorem dL_turn_322 : decode cL_turn 322 = .ok (.if_icmp .eq 5, 3) := by decide +kernel
theorem dL_turn_325 : decode cL_turn 325 = .ok (.iconst 0, 1) := by decide +kernel
theorem dL_turn_326 : decode cL_turn 326 = .ok (.ireturn, 1) := by decide +kernel
theorem dL_turn_327 : decode cL_turn 327 = .ok (.iload 7, 2) := by decide +kernel
theorem dL_turn_329 : decode cL_turn 329 = .ok (.ifCond .eq 85, 3) := by decide +kernel
theorem dL_turn_332 : decode cL_turn 332 = .ok (.aload_n 3, 1) := by decide +kernel
theorem dL_turn_333 : decode cL_turn 333 = .ok (.bipush 6, 2) := by decide +kernel
theorem dL_turn_335 : decode cL_turn 335 = .ok (.aload_n 3, 1) := by decide +kernel
theorem dL_turn_336 : decode cL_turn 336 = .ok (.iconst 1, 1) := by decide +kernel
theorem dL_turn_337 : decode cL_turn 337 = .ok (.iaload, 1) := by decide +kernel
theorem dL_turn_338 : decode cL_turn 338 = .ok (.isub, 1) := by decide +kernel
theorem dL_turn_339 : decode cL_turn 339 = .ok (.dup2, 1) := by decide +kernel
theorem dL_turn_340 : decode cL_turn 340 = .ok (.iaload, 1) := by decide +kernel
theorem dL_turn_341 : decode cL_turn 341 = .ok (.aload_n 2, 1) := by decide +kernel
theorem dL_turn_342 : decode cL_turn 342 = .ok (.aload_n 3, 1) := by decide +kernel
theorem dL_turn_343 : decode cL_turn 343 = .ok (.iconst 1, 1) := by decide +kernel
theorem dL_turn_344 : decode cL_turn 344 = .ok (.iaload, 1) := by decide +kernel
theorem dL_turn_345 : decode cL_turn 345 = .ok (.iload 8, 2) := by decide +kernel
theorem dL_turn_347 : decode cL_turn 347 = .ok (.invokestatic 21, 3) := by decide +kernel
theorem dL_turn_350 : decode cL_turn 350 = .ok (.ifCond .eq 7, 3) := by decide +kernel
theorem dL_turn_353 : decode cL_turn 353 = .ok (.iconst 1, 1) := by decide +kernel
theorem dL_turn_354 : decode cL_turn 354 = .ok (.goto 4, 3) := by decide +kernel
theorem dL_turn_357 : decode cL_turn 357 = .ok (.iconst 0, 1) := by decide +kernel
theorem dL_turn_358 : decode cL_turn 358 = .ok (.iadd, 1) := by decide +kernel
theorem dL_turn_359 : decode cL_turn 359 = .ok (.iastore, 1) := by decide +kernel
theorem dL_turn_360 : decode cL_turn 360 = .ok (.aload_n 2, 1) := by decide +kernel
theorem dL_turn_361 : decode cL_turn 361 = .ok (.aload_n 3, 1) := by decide +kernel
theorem dL_turn_362 : decode cL_turn 362 = .ok (.iconst 1, 1) := by decide +kernel
theorem dL_turn_363 : decode cL_turn 363 = .ok (.iaload, 1) := by decide +kernel
theorem dL_turn_364 : decode cL_turn 364 = .ok (.iload 6, 2) := by decide +kernel
theorem dL_turn_366 : decode cL_turn 366 = .ok (.aload_n 3, 1) := by decide +kernel
theorem dL_turn_367 : decode cL_turn 367 = .ok (.iconst 2, 1) := by decide +kernel
theorem dL_turn_368 : decode cL_turn 368 = .ok (.iaload, 1) := by decide +kernel
theorem dL_turn_369 : decode cL_turn 369 = .ok (.invokestatic 45, 3) := by decide +kernel
theorem dL_turn_372 : decode cL_turn 372 = .ok (.aload_n 3, 1) := by decide +kernel
theorem dL_turn_373 : decode cL_turn 373 = .ok (.iconst 3, 1) := by decide +kernel
theorem dL_turn_374 : decode cL_turn 374 = .ok (.aload_n 2, 1) := by decide +kernel
theorem dL_turn_375 : decode cL_turn 375 = .ok (.bipush 16, 2) := by decide +kernel
theorem dL_turn_377 : decode cL_turn 377 = .ok (.aload_n 3, 1) := by decide +kernel
theorem dL_turn_378 : decode cL_turn 378 = .ok (.iconst 1, 1) := by decide +kernel
theorem dL_turn_379 : decode cL_turn 379 = .ok (.iaload, 1) := by decide +kernel
theorem dL_turn_380 : decode cL_turn 380 = .ok (.imul, 1) := by decide +kernel
theorem dL_turn_381 : decode cL_turn 381 = .ok (.bipush 15, 2) := by decide +kernel
theorem dL_turn_383 : decode cL_turn 383 = .ok (.iadd, 1) := by decide +kernel
theorem dL_turn_384 : decode cL_turn 384 = .ok (.iaload, 1) := by decide +kernel
theorem dL_turn_385 : decode cL_turn 385 = .ok (.aload_n 3, 1) := by decide +kernel
theorem dL_turn_386 : decode cL_turn 386 = .ok (.iconst 0, 1) := by decide +kernel
theorem dL_turn_387 : decode cL_turn 387 = .ok (.iaload, 1) := by decide +kernel
theorem dL_turn_388 : decode cL_turn 388 = .ok (.if_icmp .ne 9, 3) := by decide +kernel
theorem dL_turn_391 : decode cL_turn 391 = .ok (.aload_n 3, 1) := by decide +kernel
theorem dL_turn_392 : decode cL_turn 392 = .ok (.iconst 1, 1) := by decide +kernel
theorem dL_turn_393 : decode cL_turn 393 = .ok (.iaload, 1) := by decide +kernel
theorem dL_turn_394 : decode cL_turn 394 = .ok (.goto 4, 3) := by decide +kernel
theorem dL_turn_397 : decode cL_turn 397 = .ok (.iconst (-1), 1) := by decide +kernel
theorem dL_turn_398 : decode cL_turn 398 = .ok (.iastore, 1) := by decide +kernel
theorem dL_turn_399 : decode cL_turn 399 = .ok (.aload_n 3, 1) := by decide +kernel
theorem dL_turn_400 : decode cL_turn 400 = .ok (.iconst 1, 1) := by decide +kernel
theorem dL_turn_401 : decode cL_turn 401 = .ok (.aload_n 3, 1) := by decide +kernel
theorem dL_turn_402 : decode cL_turn 402 = .ok (.iconst 1, 1) := by decide +kernel
theorem dL_turn_403 : decode cL_turn 403 = .ok (.iaload, 1) := by decide +kernel
theorem dL_turn_404 : decode cL_turn 404 = .ok (.iload 8, 2) := by decide +kernel
theorem dL_turn_406 : decode cL_turn 406 = .ok (.invokestatic 49, 3) := by decide +kernel
theorem dL_turn_409 : decode cL_turn 409 = .ok (.iastore, 1) := by decide +kernel
theorem dL_turn_410 : decode cL_turn 410 = .ok (.aload_n 3, 1) := by decide +kernel
theorem dL_turn_411 : decode cL_turn 411 = .ok (.iconst 2, 1) := by decide +kernel
theorem dL_turn_412 : decode cL_turn 412 = .ok (.iconst (-1), 1) := by decide +kernel
theorem dL_turn_413 : decode cL_turn 413 = .ok (.iastore, 1) := by decide +kernel
theorem dL_turn_414 : decode cL_turn 414 = .ok (.iconst 1, 1) := by decide +kernel
theorem dL_turn_415 : decode cL_turn 415 = .ok (.ireturn, 1) := by decide +kernel
theorem dL_law_0 : decode cL_law 0 = .ok (.new 11, 3) := by decide +kernel
theorem dL_law_3 : decode cL_law 3 = .ok (.dup, 1) := by decide +kernel
theorem dL_law_4 : decode cL_law 4 = .ok (.invokespecial 120, 3) := by decide +kernel
theorem dL_law_7 : decode cL_law 7 = .ok (.astore_n 1, 1) := by decide +kernel
theorem dL_law_8 : decode cL_law 8 = .ok (.bipush 32, 2) := by decide +kernel
theorem dL_law_10 : decode cL_law 10 = .ok (.newarray .int, 2) := by decide +kernel
theorem dL_law_12 : decode cL_law 12 = .ok (.astore_n 2, 1) := by decide +kernel
theorem dL_law_13 : decode cL_law 13 = .ok (.bipush 32, 2) := by decide +kernel
theorem dL_law_15 : decode cL_law 15 = .ok (.newarray .int, 2) := by decide +kernel
theorem dL_law_17 : decode cL_law 17 = .ok (.astore_n 3, 1) := by decide +kernel
theorem dL_law_18 : decode cL_law 18 = .ok (.bipush 32, 2) := by decide +kernel
theorem dL_law_20 : decode cL_law 20 = .ok (.newarray .int, 2) := by decide +kernel
theorem dL_law_22 : decode cL_law 22 = .ok (.astore 4, 2) := by decide +kernel
theorem dL_law_24 : decode cL_law 24 = .ok (.bipush 7, 2) := by decide +kernel
theorem dL_law_26 : decode cL_law 26 = .ok (.newarray .int, 2) := by decide +kernel
theorem dL_law_28 : decode cL_law 28 = .ok (.astore 5, 2) := by decide +kernel
theorem dL_law_30 : decode cL_law 30 = .ok (.bipush 15, 2) := by decide +kernel
theorem dL_law_32 : decode cL_law 32 = .ok (.newarray .int, 2) := by decide +kernel
theorem dL_law_34 : decode cL_law 34 = .ok (.astore 6, 2) := by decide +kernel
theorem dL_law_36 : decode cL_law 36 = .ok (.iconst 2, 1) := by decide +kernel
theorem dL_law_37 : decode cL_law 37 = .ok (.aload_n 2, 1) := by decide +kernel
theorem dL_law_38 : decode cL_law 38 = .ok (.aload 5, 2) := by decide +kernel
theorem dL_law_40 : decode cL_law 40 = .ok (.invokestatic 121, 3) := by decide +kernel
theorem dL_law_43 : decode cL_law 43 = .ok (.iconst 0, 1) := by decide +kernel
theorem dL_law_44 : decode cL_law 44 = .ok (.istore 7, 2) := by decide +kernel
theorem dL_law_46 : decode cL_law 46 = .ok (.iload 7, 2) := by decide +kernel
theorem dL_law_48 : decode cL_law 48 = .ok (.sipush 160, 3) := by decide +kernel
theorem dL_law_51 : decode cL_law 51 = .ok (.if_icmp .ge 150, 3) := by decide +kernel
theorem dL_law_54 : decode cL_law 54 = .ok (.aload_n 0, 1) := by decide +kernel
theorem dL_law_55 : decode cL_law 55 = .ok (.iload 7, 2) := by decide +kernel
theorem dL_law_57 : decode cL_law 57 = .ok (.invokestatic 125, 3) := by decide +kernel
theorem dL_law_60 : decode cL_law 60 = .ok (.istore 8, 2) := by decide +kernel
theorem dL_law_62 : decode cL_law 62 = .ok (.iload 8, 2) := by decide +kernel
theorem dL_law_64 : decode cL_law 64 = .ok (.bipush 12, 2) := by decide +kernel
theorem dL_law_66 : decode cL_law 66 = .ok (.ishr, 1) := by decide +kernel
theorem dL_law_67 : decode cL_law 67 = .ok (.bipush 40, 2) := by decide +kernel
theorem dL_law_69 : decode cL_law 69 = .ok (.invokestatic 111, 3) := by decide +kernel
theorem dL_law_72 : decode cL_law 72 = .ok (.ifCond .eq 22, 3) := by decide +kernel
theorem dL_law_75 : decode cL_law 75 = .ok (.aload 5, 2) := by decide +kernel
theorem dL_law_77 : decode cL_law 77 = .ok (.iconst 3, 1) := by decide +kernel
theorem dL_law_78 : decode cL_law 78 = .ok (.iaload, 1) := by decide +kernel
theorem dL_law_79 : decode cL_law 79 = .ok (.ifCond .lt 42, 3) := by decide +kernel
theorem dL_law_82 : decode cL_law 82 = .ok (.iload 8, 2) := by decide +kernel
theorem dL_law_84 : decode cL_law 84 = .ok (.bipush 12, 2) := by decide +kernel
theorem dL_law_86 : decode cL_law 86 = .ok (.ishr, 1) := by decide +kernel
theorem dL_law_87 : decode cL_law 87 = .ok (.iconst 3, 1) := by decide +kernel
theorem dL_law_88 : decode cL_law 88 = .ok (.invokestatic 111, 3) := by decide +kernel
theorem dL_law_91 : decode cL_law 91 = .ok (.ifCond .ne 30, 3) := by decide +kernel
theorem dL_law_94 : decode cL_law 94 = .ok (.iconst 1, 1) := by decide +kernel
theorem dL_law_95 : decode cL_law 95 = .ok (.iload 8, 2) := by decide +kernel
theorem dL_law_97 : decode cL_law 97 = .ok (.iconst 3, 1) := by decide +kernel
theorem dL_law_98 : decode cL_law 98 = .ok (.ishr, 1) := by decide +kernel
theorem dL_law_99 : decode cL_law 99 = .ok (.iconst 4, 1) := by decide +kernel
theorem dL_law_100 : decode cL_law 100 = .ok (.invokestatic 111, 3) := by decide +kernel
theorem dL_law_103 : decode cL_law 103 = .ok (.iadd, 1) := by decide +kernel
theorem dL_law_104 : decode cL_law 104 = .ok (.aload_n 2, 1) := by decide +kernel
theorem dL_law_105 : decode cL_law 105 = .ok (.aload 5, 2) := by decide +kernel
theorem dL_law_107 : decode cL_law 107 = .ok (.invokestatic 121, 3) := by decide +kernel
theorem dL_law_110 : decode cL_law 110 = .ok (.aload_n 1, 1) := by decide +kernel
theorem dL_law_111 : decode cL_law 111 = .ok (.aload 5, 2) := by decide +kernel
theorem dL_law_113 : decode cL_law 113 = .ok (.iconst 0, 1) := by decide +kernel
theorem dL_law_114 : decode cL_law 114 = .ok (.iaload, 1) := by decide +kernel
theorem dL_law_115 : decode cL_law 115 = .ok (.invokevirtual 128, 3) := by decide +kernel
theorem dL_law_118 : decode cL_law 118 = .ok (.goto 17, 3) := by decide +kernel
theorem dL_law_121 : decode cL_law 121 = .ok (.aload_n 1, 1) := by decide +kernel
theorem dL_law_122 : decode cL_law 122 = .ok (.iload 8, 2) := by decide +kernel
theorem dL_law_124 : decode cL_law 124 = .ok (.aload_n 2, 1) := by decide +kernel
theorem dL_law_125 : decode cL_law 125 = .ok (.aload 5, 2) := by decide +kernel
theorem dL_law_127 : decode cL_law 127 = .ok (.invokestatic 131, 3) := by decide +kernel
theorem dL_law_130 : decode cL_law 130 = .ok (.ifCond .ne 5, 3) := by decide +kernel
theorem dL_law_133 : decode cL_law 133 = .ok (.iconst 0, 1) := by decide +kernel
theorem dL_law_134 : decode cL_law 134 = .ok (.ireturn, 1) := by decide +kernel
theorem dL_law_135 : decode cL_law 135 = .ok (.aload_n 1, 1) := by decide +kernel
theorem dL_law_136 : decode cL_law 136 = .ok (.aload_n 2, 1) := by decide +kernel
theorem dL_law_137 : decode cL_law 137 = .ok (.aload 5, 2) := by decide +kernel
theorem dL_law_139 : decode cL_law 139 = .ok (.invokestatic 134, 3) := by decide +kernel
theorem dL_law_142 : decode cL_law 142 = .ok (.ifCond .eq 51, 3) := by decide +kernel
theorem dL_law_145 : decode cL_law 145 = .ok (.iload 7, 2) := by decide +kernel
theorem dL_law_147 : decode cL_law 147 = .ok (.bipush 8, 2) := by decide +kernel
theorem dL_law_149 : decode cL_law 149 = .ok (.irem, 1) := by decide +kernel
theorem dL_law_150 : decode cL_law 150 = .ok (.ifCond .ne 45, 3) := by decide +kernel
theorem dL_law_153 : decode cL_law 153 = .ok (.aload_n 1, 1) := by decide +kernel
theorem dL_law_154 : decode cL_law 154 = .ok (.iconst 0, 1) := by decide +kernel
theorem dL_law_155 : decode cL_law 155 = .ok (.aload_n 2, 1) := by decide +kernel
theorem dL_law_156 : decode cL_law 156 = .ok (.aload_n 3, 1) := by decide +kernel
theorem dL_law_157 : decode cL_law 157 = .ok (.aload 4, 2) := by decide +kernel
theorem dL_law_159 : decode cL_law 159 = .ok (.aload 5, 2) := by decide +kernel
theorem dL_law_161 : decode cL_law 161 = .ok (.aload 6, 2) := by decide +kernel
theorem dL_law_163 : decode cL_law 163 = .ok (.invokestatic 138, 3) := by decide +kernel
theorem dL_law_166 : decode cL_law 166 = .ok (.ifCond .eq 27, 3) := by decide +kernel
theorem dL_law_169 : decode cL_law 169 = .ok (.iload 7, 2) := by decide +kernel
theorem dL_law_171 : decode cL_law 171 = .ok (.bipush 16, 2) := by decide +kernel
theorem dL_law_173 : decode cL_law 173 = .ok (.irem, 1) := by decide +kernel
theorem dL_law_174 : decode cL_law 174 = .ok (.ifCond .ne 21, 3) := by decide +kernel
theorem dL_law_177 : decode cL_law 177 = .ok (.aload_n 1, 1) := by decide +kernel
theorem dL_law_178 : decode cL_law 178 = .ok (.iconst 1, 1) := by decide +kernel
theorem dL_law_179 : decode cL_law 179 = .ok (.aload_n 2, 1) := by decide +kernel
theorem dL_law_180 : decode cL_law 180 = .ok (.aload_n 3, 1) := by decide +kernel
theorem dL_law_181 : decode cL_law 181 = .ok (.aload 4, 2) := by decide +kernel
theorem dL_law_183 : decode cL_law 183 = .ok (.aload 5, 2) := by decide +kernel
theorem dL_law_185 : decode cL_law 185 = .ok (.aload 6, 2) := by decide +kernel
theorem dL_law_187 : decode cL_law 187 = .ok (.invokestatic 138, 3) := by decide +kernel
theorem dL_law_190 : decode cL_law 190 = .ok (.ifCond .ne 5, 3) := by decide +kernel
theorem dL_law_193 : decode cL_law 193 = .ok (.iconst 0, 1) := by decide +kernel
theorem dL_law_194 : decode cL_law 194 = .ok (.ireturn, 1) := by decide +kernel
theorem dL_law_195 : decode cL_law 195 = .ok (.iinc 7 1, 3) := by decide +kernel
theorem dL_law_198 : decode cL_law 198 = .ok (.goto (-152), 3) := by decide +kernel
theorem dL_law_201 : decode cL_law 201 = .ok (.iconst 1, 1) := by decide +kernel
theorem dL_law_202 : decode cL_law 202 = .ok (.ireturn, 1) := by decide +kernel
end
section
set_option maxRecDepth 20000 in
theorem ggL_tells_X5_tell : GoodIn wsL_tells wsX5_tell := goodIn_ca (goodIn_ca (goodIn_r _ [6, 7, 8, 9, 10, 11, 12, 13, 14, 5, 15, 16, 17, 18, 19, 20, 21, 22, 23, 24, 25, 26, 27, 28, 29, 30, 31, 32, 33, 34, 35, 36, 37, 38, 39, 40, 41, 42, 43, 44, 45, 46, 47, 48, 49, 50] (by decide +kernel) (by decide +kernel)) (goodIn_sub (fun _ h => List.mem_cons_of_mem _ (List.mem_append_left _ (List.mem_append_right _ h))) (by decide +kernel))) (goodIn_sub (fun _ h => List.mem_cons_of_mem _ (List.mem_append_right _ h)) (by decide +kernel))
set_option maxRecDepth 20000 in
theorem gL_tells_X5_tell : GoodIn wsL_tells (wsV RL 10 RX5 yX5_tell wsX5_tell) := goodIn_app (goodIn_of _ (by decide +kernel)) ggL_tells_X5_tell
set_option maxRecDepth 20000 in
theorem ggL_moves_X5_move : GoodIn wsL_moves wsX5_move := goodIn_ca (goodIn_ca (goodIn_r _ [6, 7, 8, 9, 10, 11, 12, 13, 14, 15, 5, 16, 17, 18, 19, 20, 21, 22, 23, 24, 25, 26, 27, 28, 29, 30, 31, 32, 33, 34, 35, 36, 37, 38, 39, 40, 41, 42, 43, 44, 45, 46, 47, 48, 49, 50, 51, 52, 53, 54, 55, 56, 57, 58, 59, 60, 61, 62, 63, 64, 65, 66] (by decide +kernel) (by decide +kernel)) (goodIn_sub (fun _ h => List.mem_cons_of_mem _ (List.mem_append_left _ (List.mem_append_right _ h))) (by decide +kernel))) (goodIn_sub (fun _ h => List.mem_cons_of_mem _ (List.mem_append_right _ h)) (by decide +kernel))
set_option maxRecDepth 20000 in
theorem gL_moves_X5_move : GoodIn wsL_moves (wsV RL 18 RX5 yX5_move wsX5_move) := goodIn_app (goodIn_of _ (by decide +kernel)) ggL_moves_X5_move
set_option maxRecDepth 20000 in
theorem ggL_shift_L_takes : GoodIn wsL_shift wsL_takes := goodIn_r _ [4] (by decide +kernel) (by decide +kernel)
set_option maxRecDepth 20000 in
theorem gL_shift_L_takes : GoodIn wsL_shift (va_wsS RL 21 yL_takes wsL_takes) := goodIn_app (goodIn_of _ (by decide +kernel)) ggL_shift_L_takes
set_option maxRecDepth 20000 in
theorem ggL_plain_X5_ending : GoodIn wsL_plain wsX5_ending := goodIn_ca (goodIn_r _ [7, 8, 9, 10, 6, 11, 12, 13, 14, 15, 16, 17, 18, 19, 20, 21, 22, 23, 24, 25, 26, 27, 28, 29, 30, 31, 32, 33, 34, 35, 36, 37, 38, 39, 40, 41, 42, 43, 44, 45, 46, 47, 48, 49, 50, 51, 52, 53, 54, 55, 56, 57, 58, 59, 60, 61, 62, 63, 68, 69, 70, 71, 72, 73, 74, 75, 76, 77, 78] (by decide +kernel) (by decide +kernel)) (goodIn_sub (fun _ h => List.mem_cons_of_mem _ (List.mem_append_right _ h)) (by decide +kernel))
set_option maxRecDepth 20000 in
theorem gL_plain_X5_ending : GoodIn wsL_plain (wsV RL 27 RX5 yX5_ending wsX5_ending) := goodIn_app (goodIn_of _ (by decide +kernel)) ggL_plain_X5_ending
set_option maxRecDepth 20000 in
theorem ggL_plain_L_progress : GoodIn wsL_plain wsL_progress := goodIn_r _ [67] (by decide +kernel) (by decide +kernel)
set_option maxRecDepth 20000 in
theorem gL_plain_L_progress : GoodIn wsL_plain (va_wsS RL 33 yL_progress wsL_progress) := goodIn_app (goodIn_of _ (by decide +kernel)) ggL_plain_L_progress
set_option maxRecDepth 20000 in
theorem ggL_ahead_L_can : GoodIn wsL_ahead wsL_can := goodIn_r _ [6] (by decide +kernel) (by decide +kernel)
set_option maxRecDepth 20000 in
theorem gL_ahead_L_can : GoodIn wsL_ahead (va_wsS RL 37 yL_can wsL_can) := goodIn_app (goodIn_of _ (by decide +kernel)) ggL_ahead_L_can
set_option maxRecDepth 20000 in
theorem ggL_ahead_L_copy : GoodIn wsL_ahead wsL_copy := goodIn_r _ [9] (by decide +kernel) (by decide +kernel)
set_option maxRecDepth 20000 in
theorem gL_ahead_L_copy : GoodIn wsL_ahead (va_wsS RL 41 yL_copy wsL_copy) := goodIn_app (goodIn_of _ (by decide +kernel)) ggL_ahead_L_copy
set_option maxRecDepth 20000 in
theorem ggL_ahead_L_shift : GoodIn wsL_ahead wsL_shift := goodIn_r _ [12, 13, 14, 5, 15] (by decide +kernel) (by decide +kernel)
set_option maxRecDepth 20000 in
theorem gL_ahead_L_shift : GoodIn wsL_ahead (va_wsS RL 45 yL_shift wsL_shift) := goodIn_app (goodIn_of _ (by decide +kernel)) ggL_ahead_L_shift
set_option maxRecDepth 20000 in
theorem ggL_ahead_L_after : GoodIn wsL_ahead wsL_after := goodIn_r _ [18] (by decide +kernel) (by decide +kernel)
set_option maxRecDepth 20000 in
theorem gL_ahead_L_after : GoodIn wsL_ahead (va_wsS RL 49 yL_after wsL_after) := goodIn_app (goodIn_of _ (by decide +kernel)) ggL_ahead_L_after
set_option maxRecDepth 20000 in
theorem ggL_ahead_L_plain : GoodIn wsL_ahead wsL_plain := goodIn_ca (goodIn_r _ [21, 22, 23, 24, 25, 26, 27, 28, 29, 30, 31, 32, 33, 34, 35, 36, 37, 38, 39, 40, 41, 42, 43, 44, 45, 46, 47, 48, 49, 50, 51, 52, 53, 54, 55, 56, 57, 58, 59, 60, 61, 62, 63, 64, 65, 66, 67, 68, 69, 70, 71, 72, 73, 74, 75, 76, 77, 78, 79, 80, 81, 82, 83, 84, 85, 86, 5, 87, 88, 89, 90, 91, 92, 93, 94, 95, 96, 97, 98] (by decide +kernel) (by decide +kernel)) (goodIn_sub (fun _ h => List.mem_cons_of_mem _ (List.mem_append_right _ h)) (by decide +kernel))
set_option maxRecDepth 20000 in
theorem gL_ahead_L_plain : GoodIn wsL_ahead (va_wsS RL 54 yL_plain wsL_plain) := goodIn_app (goodIn_of _ (by decide +kernel)) ggL_ahead_L_plain
set_option maxRecDepth 20000 in
theorem ggL_behind_L_copy : GoodIn wsL_behind wsL_copy := goodIn_r _ [5] (by decide +kernel) (by decide +kernel)
set_option maxRecDepth 20000 in
theorem gL_behind_L_copy : GoodIn wsL_behind (va_wsS RL 41 yL_copy wsL_copy) := goodIn_app (goodIn_of _ (by decide +kernel)) ggL_behind_L_copy
set_option maxRecDepth 20000 in
theorem ggL_behind_L_shift : GoodIn wsL_behind wsL_shift := goodIn_r _ [8, 9, 10, 4, 11] (by decide +kernel) (by decide +kernel)
set_option maxRecDepth 20000 in
theorem gL_behind_L_shift : GoodIn wsL_behind (va_wsS RL 45 yL_shift wsL_shift) := goodIn_app (goodIn_of _ (by decide +kernel)) ggL_behind_L_shift
set_option maxRecDepth 20000 in
theorem ggL_behind_L_after : GoodIn wsL_behind wsL_after := goodIn_r _ [14] (by decide +kernel) (by decide +kernel)
set_option maxRecDepth 20000 in
theorem gL_behind_L_after : GoodIn wsL_behind (va_wsS RL 49 yL_after wsL_after) := goodIn_app (goodIn_of _ (by decide +kernel)) ggL_behind_L_after
set_option maxRecDepth 20000 in
theorem ggL_behind_L_plain : GoodIn wsL_behind wsL_plain := goodIn_ca (goodIn_r _ [17, 18, 19, 20, 21, 22, 23, 24, 25, 26, 27, 28, 29, 30, 31, 32, 33, 34, 35, 36, 37, 38, 39, 40, 41, 42, 43, 44, 45, 46, 47, 48, 49, 50, 51, 52, 53, 54, 55, 56, 57, 58, 59, 60, 61, 62, 63, 64, 65, 66, 67, 68, 69, 70, 71, 72, 73, 74, 75, 76, 77, 78, 79, 80, 81, 82, 4, 83, 91, 92, 93, 94, 95, 96, 97, 98, 99, 100, 101] (by decide +kernel) (by decide +kernel)) (goodIn_sub (fun _ h => List.mem_cons_of_mem _ (List.mem_append_right _ h)) (by decide +kernel))
set_option maxRecDepth 20000 in
theorem gL_behind_L_plain : GoodIn wsL_behind (va_wsS RL 54 yL_plain wsL_plain) := goodIn_app (goodIn_of _ (by decide +kernel)) ggL_behind_L_plain
set_option maxRecDepth 20000 in
theorem ggL_behind_L_ahead : GoodIn wsL_behind wsL_ahead := goodIn_ca (goodIn_r _ [86, 1, 87, 88, 89, 4, 90, 2, 3, 5, 6, 7, 8, 9, 10, 11, 12, 13, 14, 15, 16, 17, 18, 19, 20, 21, 22, 23, 24, 25, 26, 27, 28, 29, 30, 31, 32, 33, 34, 35, 36, 37, 38, 39, 40, 41, 42, 43, 44, 45, 46, 47, 48, 49, 50, 51, 52, 53, 54, 55, 56, 57, 58, 59, 60, 61, 62, 63, 64, 65, 66, 67, 68, 69, 70, 71, 72, 73, 74, 75, 76, 77, 78, 79, 80, 81, 82, 83, 91, 92, 93, 94, 95, 96, 97, 98, 99, 100, 101] (by decide +kernel) (by decide +kernel)) (goodIn_sub (fun _ h => List.mem_cons_of_mem _ (List.mem_append_right _ h)) (by decide +kernel))
set_option maxRecDepth 20000 in
theorem gL_behind_L_ahead : GoodIn wsL_behind (va_wsS RL 60 yL_ahead wsL_ahead) := goodIn_app (goodIn_of _ (by decide +kernel)) ggL_behind_L_ahead
set_option maxRecDepth 20000 in
theorem ggL_worths_L_plain : GoodIn wsL_worths wsL_plain := goodIn_ca (goodIn_r _ [6, 7, 8, 9, 10, 11, 12, 13, 14, 15, 16, 17, 18, 19, 20, 21, 22, 23, 24, 25, 26, 27, 28, 29, 30, 31, 32, 33, 34, 35, 36, 37, 38, 39, 40, 41, 42, 43, 44, 45, 46, 47, 48, 49, 50, 51, 52, 53, 54, 55, 56, 57, 58, 59, 60, 61, 62, 63, 64, 65, 66, 67, 68, 69, 70, 71, 5, 72, 193, 194, 195, 196, 197, 198, 199, 200, 201, 202, 203] (by decide +kernel) (by decide +kernel)) (goodIn_sub (fun _ h => List.mem_cons_of_mem _ (List.mem_append_right _ h)) (by decide +kernel))
set_option maxRecDepth 20000 in
theorem gL_worths_L_plain : GoodIn wsL_worths (va_wsS RL 54 yL_plain wsL_plain) := goodIn_app (goodIn_of _ (by decide +kernel)) ggL_worths_L_plain
set_option maxRecDepth 20000 in
theorem ggL_worths_L_ahead : GoodIn wsL_worths wsL_ahead := goodIn_ca (goodIn_r _ [75, 1, 76, 77, 78, 5, 79, 80, 81, 82, 83, 84, 85, 86, 87, 88, 89, 90, 91, 3, 4, 6, 7, 8, 9, 10, 11, 12, 13, 14, 15, 16, 17, 18, 19, 20, 21, 22, 23, 24, 25, 26, 27, 28, 29, 30, 31, 32, 33, 34, 35, 36, 37, 38, 39, 40, 41, 42, 43, 44, 45, 46, 47, 48, 49, 50, 51, 52, 53, 54, 55, 56, 57, 58, 59, 60, 61, 62, 63, 64, 65, 66, 67, 68, 69, 70, 71, 72, 193, 194, 195, 196, 197, 198, 199, 200, 201, 202, 203] (by decide +kernel) (by decide +kernel)) (goodIn_sub (fun _ h => List.mem_cons_of_mem _ (List.mem_append_right _ h)) (by decide +kernel))
set_option maxRecDepth 20000 in
theorem gL_worths_L_ahead : GoodIn wsL_worths (va_wsS RL 60 yL_ahead wsL_ahead) := goodIn_app (goodIn_of _ (by decide +kernel)) ggL_worths_L_ahead
set_option maxRecDepth 20000 in
theorem ggL_worths_L_can : GoodIn wsL_worths wsL_can := goodIn_r _ [79] (by decide +kernel) (by decide +kernel)
set_option maxRecDepth 20000 in
theorem gL_worths_L_can : GoodIn wsL_worths (va_wsS RL 37 yL_can wsL_can) := goodIn_app (goodIn_of _ (by decide +kernel)) ggL_worths_L_can
set_option maxRecDepth 20000 in
theorem ggL_worths_L_behind : GoodIn wsL_worths wsL_behind := goodIn_ca (goodIn_r _ [94, 1, 80, 81, 5, 82, 83, 84, 85, 86, 87, 88, 89, 90, 91, 3, 4, 6, 7, 8, 9, 10, 11, 12, 13, 14, 15, 16, 17, 18, 19, 20, 21, 22, 23, 24, 25, 26, 27, 28, 29, 30, 31, 32, 33, 34, 35, 36, 37, 38, 39, 40, 41, 42, 43, 44, 45, 46, 47, 48, 49, 50, 51, 52, 53, 54, 55, 56, 57, 58, 59, 60, 61, 62, 63, 64, 65, 66, 67, 68, 69, 70, 71, 72, 73, 74, 75, 76, 77, 78, 79, 193, 194, 195, 196, 197, 198, 199, 200, 201, 202, 203] (by decide +kernel) (by decide +kernel)) (goodIn_sub (fun _ h => List.mem_cons_of_mem _ (List.mem_append_right _ h)) (by decide +kernel))
set_option maxRecDepth 20000 in
theorem gL_worths_L_behind : GoodIn wsL_worths (va_wsS RL 64 yL_behind wsL_behind) := goodIn_app (goodIn_of _ (by decide +kernel)) ggL_worths_L_behind
set_option maxRecDepth 20000 in
theorem ggL_worths_X5_worth : GoodIn wsL_worths wsX5_worth := goodIn_ca (goodIn_r _ [98, 99, 100, 20, 21, 12, 22, 18, 19, 101, 102, 103, 104, 105, 14, 106, 107, 27, 28, 29, 30, 31, 32, 33, 34, 35, 36, 37, 38, 39, 40, 41, 42, 43, 44, 45, 46, 47, 48, 49, 50, 51, 52, 53, 54, 55, 56, 57, 58, 59, 60, 61, 62, 63, 25, 64, 65, 24, 26, 66, 67, 68, 108, 109, 110, 111, 112, 113, 114, 115, 116, 117, 118, 119, 120, 121, 122, 123, 124, 125, 126, 127, 128, 129, 130, 131, 132, 133, 134, 135, 136, 137, 138, 139, 140, 141, 142, 143, 144, 145, 69, 146, 147, 148, 149, 150, 151, 152, 153, 154, 155, 156, 157, 158, 159, 160, 161, 162, 163, 164, 165, 166, 167, 168, 169, 170, 193, 194, 195, 196, 197, 198, 199, 200, 201, 204, 205, 202, 203] (by decide +kernel) (by decide +kernel)) (goodIn_sub (fun _ h => List.mem_cons_of_mem _ (List.mem_append_right _ h)) (by decide +kernel))
set_option maxRecDepth 20000 in
theorem gL_worths_X5_worth : GoodIn wsL_worths (wsV RL 68 RX5 yX5_worth wsX5_worth) := goodIn_app (goodIn_of _ (by decide +kernel)) ggL_worths_X5_worth
set_option maxRecDepth 20000 in
theorem ggL_worths_X5_chance : GoodIn wsL_worths wsX5_chance := goodIn_ca (goodIn_r _ [174, 175, 20, 21, 12, 22, 18, 19, 101, 102, 103, 104, 105, 99, 100, 14, 106, 107, 27, 28, 29, 30, 31, 32, 33, 34, 35, 36, 37, 38, 39, 40, 41, 42, 43, 44, 45, 46, 47, 48, 49, 50, 51, 52, 53, 54, 55, 56, 57, 58, 59, 60, 61, 62, 63, 25, 64, 65, 24, 26, 66, 67, 68, 108, 109, 110, 111, 112, 113, 114, 115, 116, 117, 118, 119, 120, 121, 122, 123, 124, 125, 126, 127, 128, 129, 130, 131, 132, 133, 134, 135, 136, 137, 138, 139, 140, 141, 142, 143, 144, 145, 69, 146, 147, 148, 149, 150, 151, 152, 153, 154, 155, 156, 157, 158, 159, 160, 161, 162, 163, 164, 165, 166, 167, 168, 169, 170, 193, 194, 195, 196, 197, 198, 199, 200, 201, 204, 205, 202, 203] (by decide +kernel) (by decide +kernel)) (goodIn_sub (fun _ h => List.mem_cons_of_mem _ (List.mem_append_right _ h)) (by decide +kernel))
set_option maxRecDepth 20000 in
theorem gL_worths_X5_chance : GoodIn wsL_worths (wsV RL 71 RX5 yX5_chance wsX5_chance) := goodIn_app (goodIn_of _ (by decide +kernel)) ggL_worths_X5_chance
set_option maxRecDepth 20000 in
theorem ggL_worths_X5_ranked : GoodIn wsL_worths wsX5_ranked := goodIn_ca (goodIn_r _ [179, 18, 19, 107, 180, 20, 21, 12, 22, 181, 182, 183, 184, 99, 106, 108, 109, 110, 111, 112, 113, 164, 165, 120, 166, 122, 123, 124, 167, 63, 25, 64, 185, 186, 187, 188, 14, 27, 28, 29, 30, 31, 32, 33, 34, 35, 36, 37, 38, 39, 40, 41, 42, 43, 44, 45, 46, 47, 48, 49, 50, 51, 52, 53, 54, 55, 56, 57, 58, 59, 60, 61, 62, 65, 24, 26, 66, 67, 68, 114, 115, 116, 117, 118, 119, 121, 168, 169, 170, 150, 100, 151, 152, 153, 154, 155, 156, 157, 158, 159, 160, 161, 162, 125, 126, 127, 163, 137, 138, 139, 128, 129, 130, 131, 132, 133, 134, 135, 136, 140, 141, 142, 143, 144, 145, 69, 146, 147, 148, 149, 189, 190, 191, 192, 193, 194, 195, 196, 197, 198, 199, 200, 201, 204, 205, 202, 203] (by decide +kernel) (by decide +kernel)) (goodIn_sub (fun _ h => List.mem_cons_of_mem _ (List.mem_append_right _ h)) (by decide +kernel))
set_option maxRecDepth 20000 in
theorem gL_worths_X5_ranked : GoodIn wsL_worths (wsV RL 77 RX5 yX5_ranked wsX5_ranked) := goodIn_app (goodIn_of _ (by decide +kernel)) ggL_worths_X5_ranked
set_option maxRecDepth 20000 in
theorem ggL_isSo_X5_turn : GoodIn wsL_isSo wsX5_turn := goodIn_r _ [5, 6, 98, 99, 100, 101, 102, 103, 104, 105, 106] (by decide +kernel) (by decide +kernel)
set_option maxRecDepth 20000 in
theorem gL_isSo_X5_turn : GoodIn wsL_isSo (wsV RL 80 RX5 yX5_turn wsX5_turn) := goodIn_app (goodIn_of _ (by decide +kernel)) ggL_isSo_X5_turn
set_option maxRecDepth 20000 in
theorem ggL_isSo_X5_marks : GoodIn wsL_isSo wsX5_marks := goodIn_r _ [10, 11, 98, 99, 100, 101, 102, 103, 104, 105, 106] (by decide +kernel) (by decide +kernel)
set_option maxRecDepth 20000 in
theorem gL_isSo_X5_marks : GoodIn wsL_isSo (wsV RL 84 RX5 yX5_marks wsX5_marks) := goodIn_app (goodIn_of _ (by decide +kernel)) ggL_isSo_X5_marks
set_option maxRecDepth 20000 in
theorem ggL_isSo_X5_winner : GoodIn wsL_isSo wsX5_winner := goodIn_r _ [15, 16, 98, 99, 100, 101, 102, 103, 104, 105, 106] (by decide +kernel) (by decide +kernel)
set_option maxRecDepth 20000 in
theorem gL_isSo_X5_winner : GoodIn wsL_isSo (wsV RL 87 RX5 yX5_winner wsX5_winner) := goodIn_app (goodIn_of _ (by decide +kernel)) ggL_isSo_X5_winner
set_option maxRecDepth 20000 in
theorem ggL_isSo_X5_throwsTold : GoodIn wsL_isSo wsX5_throwsTold := goodIn_r _ [20, 21, 98, 99, 100, 101, 102, 103, 104, 105, 106] (by decide +kernel) (by decide +kernel)
set_option maxRecDepth 20000 in
theorem gL_isSo_X5_throwsTold : GoodIn wsL_isSo (wsV RL 90 RX5 yX5_throwsTold wsX5_throwsTold) := goodIn_app (goodIn_of _ (by decide +kernel)) ggL_isSo_X5_throwsTold
set_option maxRecDepth 20000 in
theorem ggL_isSo_L_can : GoodIn wsL_isSo wsL_can := goodIn_r _ [25] (by decide +kernel) (by decide +kernel)
set_option maxRecDepth 20000 in
theorem gL_isSo_L_can : GoodIn wsL_isSo (va_wsS RL 37 yL_can wsL_can) := goodIn_app (goodIn_of _ (by decide +kernel)) ggL_isSo_L_can
set_option maxRecDepth 20000 in
theorem ggL_isSo_X5_at : GoodIn wsL_isSo wsX5_at := goodIn_ca (goodIn_r _ [29, 30, 31, 32, 4, 33, 34, 35, 36, 37, 38, 39, 40, 41, 42, 43, 44, 45, 107, 108, 98, 99, 100, 101, 102, 103, 104, 105, 106] (by decide +kernel) (by decide +kernel)) (goodIn_sub (fun _ h => List.mem_cons_of_mem _ (List.mem_append_right _ h)) (by decide +kernel))
set_option maxRecDepth 20000 in
theorem gL_isSo_X5_at : GoodIn wsL_isSo (wsV RL 93 RX5 yX5_at wsX5_at) := goodIn_app (goodIn_of _ (by decide +kernel)) ggL_isSo_X5_at
set_option maxRecDepth 20000 in
theorem ggL_isSo_X5_captures : GoodIn wsL_isSo wsX5_captures := goodIn_ca (goodIn_r _ [49, 6, 30, 11, 31, 32, 4, 33, 34, 35, 50, 51, 52, 53, 36, 37, 38, 39, 40, 41, 54, 55, 44, 56, 57, 43, 45, 58, 59, 60, 61, 62, 63, 64, 65, 66, 67, 98, 99, 100, 101, 102, 103, 104, 105, 106, 107, 108] (by decide +kernel) (by decide +kernel)) (goodIn_sub (fun _ h => List.mem_cons_of_mem _ (List.mem_append_right _ h)) (by decide +kernel))
set_option maxRecDepth 20000 in
theorem gL_isSo_X5_captures : GoodIn wsL_isSo (wsV RL 96 RX5 yX5_captures wsX5_captures) := goodIn_app (goodIn_of _ (by decide +kernel)) ggL_isSo_X5_captures
set_option maxRecDepth 20000 in
theorem ggL_isSo_L_takes : GoodIn wsL_isSo wsL_takes := goodIn_r _ [70] (by decide +kernel) (by decide +kernel)
set_option maxRecDepth 20000 in
theorem gL_isSo_L_takes : GoodIn wsL_isSo (va_wsS RL 21 yL_takes wsL_takes) := goodIn_app (goodIn_of _ (by decide +kernel)) ggL_isSo_L_takes
set_option maxRecDepth 20000 in
theorem ggL_isSo_X5_moveAt : GoodIn wsL_isSo wsX5_moveAt := goodIn_r _ [74, 50, 51, 52, 4, 53, 6, 30, 11, 36, 37, 38, 39, 40, 41, 54, 55, 44, 56, 57, 43, 45, 58, 59, 60, 61, 98, 99, 100, 101, 102, 103, 104, 105, 106, 107, 108] (by decide +kernel) (by decide +kernel)
set_option maxRecDepth 20000 in
theorem gL_isSo_X5_moveAt : GoodIn wsL_isSo (wsV RL 100 RX5 yX5_moveAt wsX5_moveAt) := goodIn_app (goodIn_of _ (by decide +kernel)) ggL_isSo_X5_moveAt
set_option maxRecDepth 20000 in
theorem ggL_isSo_X5_moves : GoodIn wsL_isSo wsX5_moves := goodIn_r _ [78, 11, 79, 80, 81, 4, 82, 6, 30, 36, 37, 38, 39, 40, 41, 54, 55, 44, 56, 57, 43, 45, 58, 59, 60, 61, 98, 99, 100, 101, 102, 103, 104, 105, 106, 107, 108] (by decide +kernel) (by decide +kernel)
set_option maxRecDepth 20000 in
theorem gL_isSo_X5_moves : GoodIn wsL_isSo (wsV RL 103 RX5 yX5_moves wsX5_moves) := goodIn_app (goodIn_of _ (by decide +kernel)) ggL_isSo_X5_moves
set_option maxRecDepth 20000 in
theorem ggL_isSo_X5_progress : GoodIn wsL_isSo wsX5_progress := goodIn_ca (goodIn_r _ [86, 30, 31, 32, 4, 33, 34, 35, 36, 37, 38, 39, 40, 41, 87, 88, 44, 89, 57, 43, 45, 107, 108, 98, 99, 100, 101, 102, 103, 104, 105, 106] (by decide +kernel) (by decide +kernel)) (goodIn_sub (fun _ h => List.mem_cons_of_mem _ (List.mem_append_right _ h)) (by decide +kernel))
set_option maxRecDepth 20000 in
theorem gL_isSo_X5_progress : GoodIn wsL_isSo (wsV RL 106 RX5 yX5_progress wsX5_progress) := goodIn_app (goodIn_of _ (by decide +kernel)) ggL_isSo_X5_progress
set_option maxRecDepth 20000 in
theorem ggL_isSo_L_progress : GoodIn wsL_isSo wsL_progress := goodIn_r _ [92] (by decide +kernel) (by decide +kernel)
set_option maxRecDepth 20000 in
theorem gL_isSo_L_progress : GoodIn wsL_isSo (va_wsS RL 33 yL_progress wsL_progress) := goodIn_app (goodIn_of _ (by decide +kernel)) ggL_isSo_L_progress
set_option maxRecDepth 20000 in
theorem ggL_isSo_X5_captured : GoodIn wsL_isSo wsX5_captured := goodIn_ca (goodIn_r _ [96, 97, 31, 32, 4, 33, 34, 35, 36, 37, 38, 39, 40, 41, 107, 108, 98, 99, 100, 101, 102, 103, 104, 105, 106] (by decide +kernel) (by decide +kernel)) (goodIn_sub (fun _ h => List.mem_cons_of_mem _ (List.mem_append_right _ h)) (by decide +kernel))
set_option maxRecDepth 20000 in
theorem gL_isSo_X5_captured : GoodIn wsL_isSo (wsV RL 108 RX5 yX5_captured wsX5_captured) := goodIn_app (goodIn_of _ (by decide +kernel)) ggL_isSo_X5_captured
set_option maxRecDepth 20000 in
theorem ggL_turn_L_low : GoodIn wsL_turn wsL_low := goodIn_r _ [4, 5] (by decide +kernel) (by decide +kernel)
set_option maxRecDepth 20000 in
theorem gL_turn_L_low : GoodIn wsL_turn (va_wsS RL 111 yL_low wsL_low) := goodIn_app (goodIn_of _ (by decide +kernel)) ggL_turn_L_low
set_option maxRecDepth 20000 in
theorem ggL_turn_L_can : GoodIn wsL_turn wsL_can := goodIn_r _ [8] (by decide +kernel) (by decide +kernel)
set_option maxRecDepth 20000 in
theorem gL_turn_L_can : GoodIn wsL_turn (va_wsS RL 37 yL_can wsL_can) := goodIn_app (goodIn_of _ (by decide +kernel)) ggL_turn_L_can
set_option maxRecDepth 20000 in
theorem ggL_turn_L_tells : GoodIn wsL_turn wsL_tells := goodIn_ca (goodIn_ca (goodIn_r _ [11, 12, 13, 14, 15, 16, 17, 18, 19, 20, 21, 22, 23, 24, 25, 26, 27, 28, 29, 30, 31, 32, 33, 34, 35, 36, 37, 38, 39, 40, 41, 42, 43, 44, 45, 46, 47, 48, 49, 50, 88, 89, 90, 91, 92, 93, 94, 95, 96, 97, 98] (by decide +kernel) (by decide +kernel)) (goodIn_sub (fun _ h => List.mem_cons_of_mem _ (List.mem_append_left _ (List.mem_append_right _ h))) (by decide +kernel))) (goodIn_sub (fun _ h => List.mem_cons_of_mem _ (List.mem_append_right _ h)) (by decide +kernel))
set_option maxRecDepth 20000 in
theorem gL_turn_L_tells : GoodIn wsL_turn (va_wsS RL 114 yL_tells wsL_tells) := goodIn_app (goodIn_of _ (by decide +kernel)) ggL_turn_L_tells
set_option maxRecDepth 20000 in
theorem ggL_turn_L_moves : GoodIn wsL_turn wsL_moves := goodIn_ca (goodIn_ca (goodIn_r _ [53, 12, 54, 55, 56, 16, 57, 18, 19, 21, 23, 33, 58, 20, 24, 25, 26, 27, 28, 59, 60, 61, 62, 34, 35, 36, 37, 38, 39, 40, 41, 42, 43, 44, 45, 46, 47, 48, 49, 50, 63, 64, 65, 66, 67, 68, 69, 70, 71, 72, 73, 74, 75, 76, 77, 78, 88, 89, 90, 91, 92, 93, 94, 95, 96, 97, 98] (by decide +kernel) (by decide +kernel)) (goodIn_sub (fun _ h => List.mem_cons_of_mem _ (List.mem_append_left _ (List.mem_append_right _ h))) (by decide +kernel))) (goodIn_sub (fun _ h => List.mem_cons_of_mem _ (List.mem_append_right _ h)) (by decide +kernel))
set_option maxRecDepth 20000 in
theorem gL_turn_L_moves : GoodIn wsL_turn (va_wsS RL 118 yL_moves wsL_moves) := goodIn_app (goodIn_of _ (by decide +kernel)) ggL_turn_L_moves
set_option maxRecDepth 20000 in
theorem ggL_turn_L_takes : GoodIn wsL_turn wsL_takes := goodIn_r _ [81] (by decide +kernel) (by decide +kernel)
set_option maxRecDepth 20000 in
theorem gL_turn_L_takes : GoodIn wsL_turn (va_wsS RL 21 yL_takes wsL_takes) := goodIn_app (goodIn_of _ (by decide +kernel)) ggL_turn_L_takes
set_option maxRecDepth 20000 in
theorem ggL_turn_L_shift : GoodIn wsL_turn wsL_shift := goodIn_r _ [84, 79, 80, 3, 81] (by decide +kernel) (by decide +kernel)
set_option maxRecDepth 20000 in
theorem gL_turn_L_shift : GoodIn wsL_turn (va_wsS RL 45 yL_shift wsL_shift) := goodIn_app (goodIn_of _ (by decide +kernel)) ggL_turn_L_shift
set_option maxRecDepth 20000 in
theorem ggL_turn_L_after : GoodIn wsL_turn wsL_after := goodIn_r _ [87] (by decide +kernel) (by decide +kernel)
set_option maxRecDepth 20000 in
theorem gL_turn_L_after : GoodIn wsL_turn (va_wsS RL 49 yL_after wsL_after) := goodIn_app (goodIn_of _ (by decide +kernel)) ggL_turn_L_after
set_option maxRecDepth 20000 in
theorem ggL_law_X5_init : GoodIn wsL_law wsX5_init := goodIn_r _ [6, 7, 8, 9, 10, 11, 12, 13, 14, 15, 16, 17, 18, 3, 19, 20, 21, 22, 23, 24, 25, 26, 27, 28, 29, 30, 2, 31, 32, 33, 34, 35, 36, 37, 38, 39, 40, 41, 42, 317, 318, 308, 309, 310, 311, 312, 313, 314, 315, 316, 319, 320] (by decide +kernel) (by decide +kernel)
set_option maxRecDepth 20000 in
theorem gL_law_X5_init : GoodIn wsL_law (wsX5_init) := ggL_law_X5_init
set_option maxRecDepth 20000 in
theorem ggL_law_L_begin : GoodIn wsL_law wsL_begin := goodIn_r _ [46] (by decide +kernel) (by decide +kernel)
set_option maxRecDepth 20000 in
theorem gL_law_L_begin : GoodIn wsL_law (va_wsS RL 121 yL_begin wsL_begin) := goodIn_app (goodIn_of _ (by decide +kernel)) ggL_law_L_begin
set_option maxRecDepth 20000 in
theorem ggL_law_L_cell : GoodIn wsL_law wsL_cell := goodIn_r _ [49, 50, 51] (by decide +kernel) (by decide +kernel)
set_option maxRecDepth 20000 in
theorem gL_law_L_cell : GoodIn wsL_law (va_wsS RL 125 yL_cell wsL_cell) := goodIn_app (goodIn_of _ (by decide +kernel)) ggL_law_L_cell
set_option maxRecDepth 20000 in
theorem ggL_law_L_low : GoodIn wsL_law wsL_low := goodIn_r _ [54, 55] (by decide +kernel) (by decide +kernel)
set_option maxRecDepth 20000 in
theorem gL_law_L_low : GoodIn wsL_law (va_wsS RL 111 yL_low wsL_low) := goodIn_app (goodIn_of _ (by decide +kernel)) ggL_law_L_low
set_option maxRecDepth 20000 in
theorem ggL_law_X5_begin : GoodIn wsL_law wsX5_begin := goodIn_ca (goodIn_r _ [59, 60, 61, 2, 62, 63, 64, 28, 29, 30, 31, 32, 13, 33, 14, 34, 35, 36, 37, 38, 39, 40, 41, 42, 308, 309, 310, 311, 312, 313, 314, 315, 316, 317, 318] (by decide +kernel) (by decide +kernel)) (goodIn_sub (fun _ h => List.mem_append_left _ (List.mem_append_right _ h)) (by decide +kernel))
set_option maxRecDepth 20000 in
theorem gL_law_X5_begin : GoodIn wsL_law (wsV RL 128 RX5 yX5_begin wsX5_begin) := goodIn_app (goodIn_of _ (by decide +kernel)) ggL_law_X5_begin
set_option maxRecDepth 20000 in
theorem ggL_law_L_turn : GoodIn wsL_law wsL_turn := goodIn_ca (goodIn_ca (goodIn_r _ [67, 52, 53, 45, 54, 55, 68, 69, 70, 71, 72, 73, 74, 75, 76, 77, 2, 78, 79, 80, 37, 36, 38, 35, 60, 61, 62, 63, 64, 81, 82, 83, 84, 33, 85, 86, 87, 88, 13, 14, 89, 90, 41, 91, 92, 93, 94, 95, 96, 97, 98, 99, 100, 101, 102, 103, 104, 105, 34, 106, 107, 108, 109, 110, 111, 112, 113, 114, 115, 116, 117, 118, 119, 120, 121, 122, 123, 124, 125, 126, 127, 128, 129, 130, 131, 132, 133, 134, 308, 309, 310, 311, 312, 313, 314, 315, 316, 317, 318] (by decide +kernel) (by decide +kernel)) (goodIn_sub (fun _ h => List.mem_append_right _ h) (by decide +kernel))) (goodIn_sub (fun _ h => List.mem_append_left _ (List.mem_append_right _ h)) (by decide +kernel))
set_option maxRecDepth 20000 in
theorem gL_law_L_turn : GoodIn wsL_law (va_wsS RL 131 yL_turn wsL_turn) := goodIn_app (goodIn_of _ (by decide +kernel)) ggL_law_L_turn
set_option maxRecDepth 20000 in
theorem ggL_law_L_isSo : GoodIn wsL_law wsL_isSo := goodIn_ca (goodIn_r _ [137, 138, 139, 140, 2, 141, 35, 142, 143, 144, 145, 36, 146, 147, 148, 149, 37, 150, 151, 152, 153, 38, 68, 69, 45, 70, 154, 155, 156, 157, 33, 60, 61, 62, 63, 64, 85, 86, 87, 88, 13, 14, 158, 93, 41, 94, 159, 160, 161, 162, 106, 107, 108, 109, 89, 90, 91, 92, 95, 96, 97, 98, 113, 114, 115, 116, 117, 118, 126, 127, 128, 163, 164, 165, 166, 167, 168, 169, 170, 81, 82, 83, 84, 171, 172, 173, 174, 175, 176, 177, 178, 179, 180, 181, 182, 183, 184, 34, 308, 309, 310, 311, 312, 313, 314, 315, 316, 317, 318] (by decide +kernel) (by decide +kernel)) (goodIn_sub (fun _ h => List.mem_append_left _ (List.mem_append_right _ h)) (by decide +kernel))
set_option maxRecDepth 20000 in
theorem gL_law_L_isSo : GoodIn wsL_law (va_wsS RL 134 yL_isSo wsL_isSo) := goodIn_app (goodIn_of _ (by decide +kernel)) ggL_law_L_isSo
set_option maxRecDepth 20000 in
theorem ggL_law_L_worths : GoodIn wsL_law wsL_worths := goodIn_ca (goodIn_r _ [187, 188, 189, 190, 191, 45, 192, 193, 194, 195, 196, 197, 2, 198, 18, 199, 200, 201, 63, 64, 60, 61, 62, 202, 117, 97, 118, 203, 204, 205, 17, 206, 207, 208, 209, 210, 211, 212, 213, 214, 215, 27, 216, 217, 218, 219, 220, 221, 222, 223, 224, 225, 226, 227, 228, 229, 230, 231, 232, 233, 234, 235, 236, 96, 98, 237, 238, 124, 125, 239, 178, 179, 180, 240, 241, 242, 243, 68, 69, 70, 244, 245, 246, 129, 130, 131, 126, 127, 128, 132, 133, 134, 247, 248, 249, 250, 251, 252, 253, 35, 254, 255, 256, 257, 258, 37, 33, 36, 85, 86, 87, 88, 13, 14, 259, 260, 261, 262, 175, 176, 41, 177, 92, 93, 94, 263, 264, 265, 266, 267, 268, 269, 270, 271, 32, 272, 273, 274, 275, 276, 277, 278, 158, 279, 280, 281, 282, 283, 284, 285, 286, 110, 111, 112, 119, 120, 121, 122, 113, 114, 115, 116, 123, 287, 89, 90, 91, 95, 288, 289, 290, 291, 292, 293, 294, 295, 296, 297, 298, 299, 19, 81, 82, 83, 84, 300, 301, 302, 303, 304, 305, 306, 307, 308, 309, 310, 311, 312, 313, 314, 315, 316, 319, 320, 317, 318] (by decide +kernel) (by decide +kernel)) (goodIn_sub (fun _ h => List.mem_append_left _ (List.mem_append_right _ h)) (by decide +kernel))
set_option maxRecDepth 20000 in
theorem gL_law_L_worths : GoodIn wsL_law (va_wsS RL 138 yL_worths wsL_worths) := goodIn_app (goodIn_of _ (by decide +kernel)) ggL_law_L_worths
end
section
/-! the words of the law lie in its tables -/
theorem zap {a b big : List Cond} (ha : ∀ w ∈ a, w ∈ big) (hb : ∀ w ∈ b, w ∈ big) : ∀ w ∈ a ++ b, w ∈ big := fun w h => (List.mem_append.mp h).elim (ha w) (hb w)
set_option maxRecDepth 20000
theorem wsL_in_r1 : ∀ w ∈ wsL_law0_r1, w ∈ lw_tbl := fun w h => (goodIn_p wsL_law0_r1 [33, 36, 41] (by decide +kernel) (by decide +kernel) w h).1
theorem wsL_in_r2 : ∀ w ∈ wsL_law0_r2, w ∈ lw_tbl := fun w h => (goodIn_p wsL_law0_r2 [54, 67, 70, 399] (by decide +kernel) (by decide +kernel) w h).1
theorem wsL_in_r3 : ∀ w ∈ wsL_law0_r3, w ∈ lw_tbl := fun w h => (goodIn_p wsL_law0_r3 [170, 175, 102, 105, 402, 243] (by decide +kernel) (by decide +kernel) w h).1
theorem wsL_in_r4 : ∀ w ∈ wsL_law0_r4, w ∈ lw_tbl := fun w h => (goodIn_p wsL_law0_r4 [410, 341, 272, 309, 282] (by decide +kernel) (by decide +kernel) w h).1
theorem wsL_in_r5 : ∀ w ∈ wsL_law0_r5, w ∈ lw_tbl := fun w h => (goodIn_p wsL_law0_r5 [225, 432, 380, 317, 324, 193] (by decide +kernel) (by decide +kernel) w h).1
theorem wsL_in_r6 : ∀ w ∈ wsL_law0_r6, w ∈ lw_tbl := fun w h => (goodIn_p wsL_law0_r6 [320, 230, 252, 249, 255, 352, 356] (by decide +kernel) (by decide +kernel) w h).1
theorem wsL_in_r7 : ∀ w ∈ wsL_law0_r7, w ∈ lw_tbl := fun w h => (goodIn_p wsL_law0_r7 [360, 364, 368, 372, 376, 384] (by decide +kernel) (by decide +kernel) w h).1
theorem wsL_in_r8 : ∀ w ∈ wsL_law0_r8, w ∈ lw_tbl := fun w h => (goodIn_p wsL_law0_r8 [388, 392, 279, 237, 396, 179] (by decide +kernel) (by decide +kernel) w h).1
theorem wsL_in_r9 : ∀ w ∈ wsL_law0_r9, w ∈ lw_tbl := fun w h => (goodIn_p wsL_law0_r9 [183, 187, 190, 197, 200, 204] (by decide +kernel) (by decide +kernel) w h).1
theorem wsL_in_r10 : ∀ w ∈ wsL_law0_r10, w ∈ lw_tbl := fun w h => (goodIn_p wsL_law0_r10 [208, 212, 216, 222] (by decide +kernel) (by decide +kernel) w h).1
theorem wsL_in_r11 : ∀ w ∈ wsL_law0_r11, w ∈ lw_tbl := fun w h => (goodIn_p wsL_law0_r11 [240, 246, 259, 263, 267, 276] (by decide +kernel) (by decide +kernel) w h).1
theorem wsL_in_r12 : ∀ w ∈ wsL_law0_r12, w ∈ lw_tbl := fun w h => (goodIn_p wsL_law0_r12 [286, 290, 299, 294, 314, 306] (by decide +kernel) (by decide +kernel) w h).1
theorem wsL_in_r13 : ∀ w ∈ wsL_law0_r13, w ∈ lw_tbl := fun w h => (goodIn_p wsL_law0_r13 [331, 337, 345, 349] (by decide +kernel) (by decide +kernel) w h).1
theorem zin_X5 : ∀ w ∈ wsX50, w ∈ lw_tbl := by decide +kernel
theorem zin_X3 : ∀ w ∈ wsX30, w ∈ lw_tbl := by decide +kernel
theorem zin_X1 : ∀ w ∈ wsX10, w ∈ lw_tbl := by decide +kernel
theorem wsL_law_in0 : ∀ w ∈ wsL_law0, w ∈ lw_tbl := zap (zap (zap (zap (zap wsL_in_r1 (zap wsL_in_r2 (zap wsL_in_r3 (zap wsL_in_r4 (zap wsL_in_r5 (zap wsL_in_r6 (zap wsL_in_r7 (zap wsL_in_r8 (zap wsL_in_r9 (zap wsL_in_r10 (zap wsL_in_r11 (zap wsL_in_r12 wsL_in_r13)))))))))))) zin_X5) zin_X3) zin_X1) (fun _ h => by cases h)
theorem wsL_law_x0 : ∀ w ∈ (vx_at0 RX5 110 "java/lang/IllegalArgumentException" ["java/lang/RuntimeException", "java/lang/Exception"]).filter goodWord, w ∈ lw_tbl := by decide +kernel
theorem wsL_law_x1 : ∀ w ∈ (vx_at0 RX5 51 "java/lang/IllegalStateException" ["java/lang/RuntimeException", "java/lang/Exception"]).filter goodWord, w ∈ lw_tbl := by decide +kernel
theorem wsL_law_in : ∀ w ∈ wsL_law, w ∈ lw_tbl := fun w h => (List.mem_append.mp h).elim (fun h => (List.mem_append.mp h).elim (fun h => wsL_law_in0 w h) (fun h => wsL_law_x0 w h)) (fun h => wsL_law_x1 w h)
theorem inX0 : ∀ w ∈ wsX00, w ∈ lw_tbl := by decide +kernel
theorem inlX1 : ∀ w ∈ wsX10, w ∈ wsL_law := fun _ h => List.mem_append_left _ (List.mem_append_left _ (List.mem_append_left _ (List.mem_append_right _ h)))
theorem inX1 : ∀ w ∈ wsX10, w ∈ lw_tbl := fun w h => wsL_law_in w (inlX1 w h)
theorem inX2 : ∀ w ∈ wsX20, w ∈ lw_tbl := by decide +kernel
theorem inlX3 : ∀ w ∈ wsX30, w ∈ wsL_law := fun _ h => List.mem_append_left _ (List.mem_append_left _ (List.mem_append_left _ (List.mem_append_left _ (List.mem_append_right _ h))))
theorem inX3 : ∀ w ∈ wsX30, w ∈ lw_tbl := fun w h => wsL_law_in w (inlX3 w h)
theorem inX4 : ∀ w ∈ wsX40, w ∈ lw_tbl := by decide +kernel
theorem inlX5 : ∀ w ∈ wsX50, w ∈ wsL_law := fun _ h => List.mem_append_left _ (List.mem_append_left _ (List.mem_append_left _ (List.mem_append_left _ (List.mem_append_left _ (List.mem_append_right _ h)))))
theorem inX5 : ∀ w ∈ wsX50, w ∈ lw_tbl := fun w h => wsL_law_in w (inlX5 w h)
theorem inX6 : ∀ w ∈ wsX60, w ∈ lw_tbl := by decide +kernel
theorem inJ9 : ∀ w ∈ wsJ90, w ∈ lw_tbl := by decide +kernel
end

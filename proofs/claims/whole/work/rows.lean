section
-- ===== PART A: goes FIRST, ahead of the names: the tables' words, and 'selects' of the private methods out of them =====
/-- a private method of a class that the tables say can be made, by its rows of tables_1 -/
def lw_okq (q : MethodName × Nat) : Prop := (q.1.cls ≠ "java/lang/invoke/MethodHandle" ∧ q.1.cls ≠ "java/lang/invoke/VarHandle") ∧ Cond.instantiable q.1.cls q.2 ∈ tables_1 ∧ Cond.privateMethod q.1 ∈ tables_1 ∧ Cond.instanceMethod q.1 ∈ tables_1
theorem lw_p0 : lw_okq (⟨"RoyalUrTable", "setUp", "(I)V"⟩, 9) := ⟨⟨by decide +kernel, by decide +kernel⟩, List.mem_of_getElem? (i := 15) (by decide +kernel), List.mem_of_getElem? (i := 50) (by decide +kernel), List.mem_of_getElem? (i := 51) (by decide +kernel)⟩
theorem lw_p1 : lw_okq (⟨"RoyalUrTable", "countMoves", "(I)I"⟩, 9) := ⟨⟨by decide +kernel, by decide +kernel⟩, List.mem_of_getElem? (i := 15) (by decide +kernel), List.mem_of_getElem? (i := 105) (by decide +kernel), List.mem_of_getElem? (i := 106) (by decide +kernel)⟩
theorem lw_p2 : lw_okq (⟨"RoyalUrTable", "sideOf", "(I)LRoyalUrTable$Side;"⟩, 9) := ⟨⟨by decide +kernel, by decide +kernel⟩, List.mem_of_getElem? (i := 15) (by decide +kernel), List.mem_of_getElem? (i := 109) (by decide +kernel), List.mem_of_getElem? (i := 110) (by decide +kernel)⟩
theorem lw_p3 : lw_okq (⟨"RoyalUrTable", "canMoveFrom", "(I)Z"⟩, 9) := ⟨⟨by decide +kernel, by decide +kernel⟩, List.mem_of_getElem? (i := 15) (by decide +kernel), List.mem_of_getElem? (i := 126) (by decide +kernel), List.mem_of_getElem? (i := 127) (by decide +kernel)⟩
theorem lw_p4 : lw_okq (⟨"java/lang/Throwable", "fillInStackTrace", "(I)Ljava/lang/Throwable;"⟩, 6) := ⟨⟨by decide +kernel, by decide +kernel⟩, List.mem_of_getElem? (i := 178) (by decide +kernel), List.mem_of_getElem? (i := 176) (by decide +kernel), List.mem_of_getElem? (i := 177) (by decide +kernel)⟩
theorem lw_p5 : lw_okq (⟨"RoyalUrTable", "worthForTurn", "(I)I"⟩, 9) := ⟨⟨by decide +kernel, by decide +kernel⟩, List.mem_of_getElem? (i := 15) (by decide +kernel), List.mem_of_getElem? (i := 288) (by decide +kernel), List.mem_of_getElem? (i := 289) (by decide +kernel)⟩
theorem lw_p6 : lw_okq (⟨"RoyalUrTable$Endings", "fillRow", "(I)V"⟩, 2) := ⟨⟨by decide +kernel, by decide +kernel⟩, List.mem_of_getElem? (i := 36) (by decide +kernel), List.mem_of_getElem? (i := 300) (by decide +kernel), List.mem_of_getElem? (i := 301) (by decide +kernel)⟩
theorem lw_p7 : lw_okq (⟨"RoyalUrTable$Endings", "worthToThrow", "(IIII)I"⟩, 2) := ⟨⟨by decide +kernel, by decide +kernel⟩, List.mem_of_getElem? (i := 36) (by decide +kernel), List.mem_of_getElem? (i := 304) (by decide +kernel), List.mem_of_getElem? (i := 305) (by decide +kernel)⟩
theorem lw_p8 : lw_okq (⟨"RoyalUrTable$Endings", "worthBehindThrow", "(IIIII)I"⟩, 2) := ⟨⟨by decide +kernel, by decide +kernel⟩, List.mem_of_getElem? (i := 36) (by decide +kernel), List.mem_of_getElem? (i := 318) (by decide +kernel), List.mem_of_getElem? (i := 319) (by decide +kernel)⟩
theorem lw_p9 : lw_okq (⟨"RoyalUrTable", "leadOfTurn", "()I"⟩, 9) := ⟨⟨by decide +kernel, by decide +kernel⟩, List.mem_of_getElem? (i := 15) (by decide +kernel), List.mem_of_getElem? (i := 327) (by decide +kernel), List.mem_of_getElem? (i := 328) (by decide +kernel)⟩
theorem lw_p10 : lw_okq (⟨"RoyalUrTable", "worthToThrow", "(JJII)I"⟩, 9) := ⟨⟨by decide +kernel, by decide +kernel⟩, List.mem_of_getElem? (i := 15) (by decide +kernel), List.mem_of_getElem? (i := 331) (by decide +kernel), List.mem_of_getElem? (i := 332) (by decide +kernel)⟩
theorem lw_p11 : lw_okq (⟨"RoyalUrTable", "worthAtOnce", "(JJI)I"⟩, 9) := ⟨⟨by decide +kernel, by decide +kernel⟩, List.mem_of_getElem? (i := 15) (by decide +kernel), List.mem_of_getElem? (i := 335) (by decide +kernel), List.mem_of_getElem? (i := 336) (by decide +kernel)⟩
theorem lw_p12 : lw_okq (⟨"RoyalUrTable", "worthBehindThrow", "(JJIII)I"⟩, 9) := ⟨⟨by decide +kernel, by decide +kernel⟩, List.mem_of_getElem? (i := 15) (by decide +kernel), List.mem_of_getElem? (i := 351) (by decide +kernel), List.mem_of_getElem? (i := 352) (by decide +kernel)⟩
theorem lw_p13 : lw_okq (⟨"RoyalUrTable", "worthBehindMove", "(JJIIII)I"⟩, 9) := ⟨⟨by decide +kernel, by decide +kernel⟩, List.mem_of_getElem? (i := 15) (by decide +kernel), List.mem_of_getElem? (i := 355) (by decide +kernel), List.mem_of_getElem? (i := 356) (by decide +kernel)⟩
theorem lw_p14 : lw_okq (⟨"RoyalUrTable", "noteWorthsBehind", "(I)V"⟩, 9) := ⟨⟨by decide +kernel, by decide +kernel⟩, List.mem_of_getElem? (i := 15) (by decide +kernel), List.mem_of_getElem? (i := 375) (by decide +kernel), List.mem_of_getElem? (i := 376) (by decide +kernel)⟩
theorem lw_p15 : lw_okq (⟨"RoyalUrTable", "countBetter", "(II)I"⟩, 9) := ⟨⟨by decide +kernel, by decide +kernel⟩, List.mem_of_getElem? (i := 15) (by decide +kernel), List.mem_of_getElem? (i := 379) (by decide +kernel), List.mem_of_getElem? (i := 380) (by decide +kernel)⟩
def lw_privs_1 : List (MethodName × Nat) := [(⟨"RoyalUrTable", "setUp", "(I)V"⟩, 9), (⟨"RoyalUrTable", "countMoves", "(I)I"⟩, 9), (⟨"RoyalUrTable", "sideOf", "(I)LRoyalUrTable$Side;"⟩, 9), (⟨"RoyalUrTable", "canMoveFrom", "(I)Z"⟩, 9), (⟨"java/lang/Throwable", "fillInStackTrace", "(I)Ljava/lang/Throwable;"⟩, 6), (⟨"RoyalUrTable", "worthForTurn", "(I)I"⟩, 9), (⟨"RoyalUrTable$Endings", "fillRow", "(I)V"⟩, 2), (⟨"RoyalUrTable$Endings", "worthToThrow", "(IIII)I"⟩, 2), (⟨"RoyalUrTable$Endings", "worthBehindThrow", "(IIIII)I"⟩, 2), (⟨"RoyalUrTable", "leadOfTurn", "()I"⟩, 9), (⟨"RoyalUrTable", "worthToThrow", "(JJII)I"⟩, 9), (⟨"RoyalUrTable", "worthAtOnce", "(JJI)I"⟩, 9), (⟨"RoyalUrTable", "worthBehindThrow", "(JJIII)I"⟩, 9), (⟨"RoyalUrTable", "worthBehindMove", "(JJIIII)I"⟩, 9), (⟨"RoyalUrTable", "noteWorthsBehind", "(I)V"⟩, 9), (⟨"RoyalUrTable", "countBetter", "(II)I"⟩, 9)]
theorem lw_r1 : ∀ q ∈ lw_privs_1, lw_okq q := List.forall_mem_cons.mpr ⟨lw_p0, List.forall_mem_cons.mpr ⟨lw_p1, List.forall_mem_cons.mpr ⟨lw_p2, List.forall_mem_cons.mpr ⟨lw_p3, List.forall_mem_cons.mpr ⟨lw_p4, List.forall_mem_cons.mpr ⟨lw_p5, List.forall_mem_cons.mpr ⟨lw_p6, List.forall_mem_cons.mpr ⟨lw_p7, List.forall_mem_cons.mpr ⟨lw_p8, List.forall_mem_cons.mpr ⟨lw_p9, List.forall_mem_cons.mpr ⟨lw_p10, List.forall_mem_cons.mpr ⟨lw_p11, List.forall_mem_cons.mpr ⟨lw_p12, List.forall_mem_cons.mpr ⟨lw_p13, List.forall_mem_cons.mpr ⟨lw_p14, List.forall_mem_cons.mpr ⟨lw_p15, fun _ h => absurd h List.not_mem_nil⟩⟩⟩⟩⟩⟩⟩⟩⟩⟩⟩⟩⟩⟩⟩⟩
theorem lw_p16 : lw_okq (⟨"RoyalUrTableModel", "layTable", "(I)V"⟩, 19) := ⟨⟨by decide +kernel, by decide +kernel⟩, List.mem_of_getElem? (i := 405) (by decide +kernel), List.mem_of_getElem? (i := 411) (by decide +kernel), List.mem_of_getElem? (i := 412) (by decide +kernel)⟩
theorem lw_p17 : lw_okq (⟨"RoyalUrTableModel", "behindThrow", "(III)I"⟩, 19) := ⟨⟨by decide +kernel, by decide +kernel⟩, List.mem_of_getElem? (i := 405) (by decide +kernel), List.mem_of_getElem? (i := 416) (by decide +kernel), List.mem_of_getElem? (i := 417) (by decide +kernel)⟩
theorem lw_p18 : lw_okq (⟨"RoyalUrTableModel", "starts", "(I)V"⟩, 19) := ⟨⟨by decide +kernel, by decide +kernel⟩, List.mem_of_getElem? (i := 405) (by decide +kernel), List.mem_of_getElem? (i := 431) (by decide +kernel), List.mem_of_getElem? (i := 432) (by decide +kernel)⟩
theorem lw_p19 : lw_okq (⟨"RoyalUrTableModel", "ended", "(IIII)I"⟩, 19) := ⟨⟨by decide +kernel, by decide +kernel⟩, List.mem_of_getElem? (i := 405) (by decide +kernel), List.mem_of_getElem? (i := 502) (by decide +kernel), List.mem_of_getElem? (i := 503) (by decide +kernel)⟩
theorem lw_p20 : lw_okq (⟨"RoyalUrTableModel", "fails", "(I)I"⟩, 19) := ⟨⟨by decide +kernel, by decide +kernel⟩, List.mem_of_getElem? (i := 405) (by decide +kernel), List.mem_of_getElem? (i := 518) (by decide +kernel), List.mem_of_getElem? (i := 519) (by decide +kernel)⟩
theorem lw_p21 : lw_okq (⟨"RoyalUrTableModel", "countMoves", "(I)I"⟩, 19) := ⟨⟨by decide +kernel, by decide +kernel⟩, List.mem_of_getElem? (i := 405) (by decide +kernel), List.mem_of_getElem? (i := 522) (by decide +kernel), List.mem_of_getElem? (i := 523) (by decide +kernel)⟩
theorem lw_p22 : lw_okq (⟨"RoyalUrTableModel", "progressOf", "([III)I"⟩, 19) := ⟨⟨by decide +kernel, by decide +kernel⟩, List.mem_of_getElem? (i := 405) (by decide +kernel), List.mem_of_getElem? (i := 556) (by decide +kernel), List.mem_of_getElem? (i := 557) (by decide +kernel)⟩
theorem lw_p23 : lw_okq (⟨"RoyalUrTableModel", "worthNow", "(I)I"⟩, 19) := ⟨⟨by decide +kernel, by decide +kernel⟩, List.mem_of_getElem? (i := 405) (by decide +kernel), List.mem_of_getElem? (i := 584) (by decide +kernel), List.mem_of_getElem? (i := 585) (by decide +kernel)⟩
theorem lw_p24 : lw_okq (⟨"RoyalUrTableModel", "lays", "()V"⟩, 19) := ⟨⟨by decide +kernel, by decide +kernel⟩, List.mem_of_getElem? (i := 405) (by decide +kernel), List.mem_of_getElem? (i := 588) (by decide +kernel), List.mem_of_getElem? (i := 589) (by decide +kernel)⟩
theorem lw_p25 : lw_okq (⟨"RoyalUrTableModel", "worthOf", "(II)I"⟩, 19) := ⟨⟨by decide +kernel, by decide +kernel⟩, List.mem_of_getElem? (i := 405) (by decide +kernel), List.mem_of_getElem? (i := 592) (by decide +kernel), List.mem_of_getElem? (i := 593) (by decide +kernel)⟩
theorem lw_p26 : lw_okq (⟨"RoyalUrTableModel", "enters", "(II)V"⟩, 19) := ⟨⟨by decide +kernel, by decide +kernel⟩, List.mem_of_getElem? (i := 405) (by decide +kernel), List.mem_of_getElem? (i := 596) (by decide +kernel), List.mem_of_getElem? (i := 597) (by decide +kernel)⟩
theorem lw_p27 : lw_okq (⟨"RoyalUrTableModel", "leaf", "(II)I"⟩, 19) := ⟨⟨by decide +kernel, by decide +kernel⟩, List.mem_of_getElem? (i := 405) (by decide +kernel), List.mem_of_getElem? (i := 600) (by decide +kernel), List.mem_of_getElem? (i := 601) (by decide +kernel)⟩
theorem lw_p28 : lw_okq (⟨"RoyalUrTableModel", "onlyOne", "([III)I"⟩, 19) := ⟨⟨by decide +kernel, by decide +kernel⟩, List.mem_of_getElem? (i := 405) (by decide +kernel), List.mem_of_getElem? (i := 604) (by decide +kernel), List.mem_of_getElem? (i := 605) (by decide +kernel)⟩
theorem lw_p29 : lw_okq (⟨"RoyalUrTableModel", "goesOn", "(I)Z"⟩, 19) := ⟨⟨by decide +kernel, by decide +kernel⟩, List.mem_of_getElem? (i := 405) (by decide +kernel), List.mem_of_getElem? (i := 610) (by decide +kernel), List.mem_of_getElem? (i := 611) (by decide +kernel)⟩
theorem lw_p30 : lw_okq (⟨"RoyalUrTableModel", "copies", "(I)V"⟩, 19) := ⟨⟨by decide +kernel, by decide +kernel⟩, List.mem_of_getElem? (i := 405) (by decide +kernel), List.mem_of_getElem? (i := 614) (by decide +kernel), List.mem_of_getElem? (i := 615) (by decide +kernel)⟩
theorem lw_p31 : lw_okq (⟨"RoyalUrTableModel", "takes", "(III)V"⟩, 19) := ⟨⟨by decide +kernel, by decide +kernel⟩, List.mem_of_getElem? (i := 405) (by decide +kernel), List.mem_of_getElem? (i := 618) (by decide +kernel), List.mem_of_getElem? (i := 619) (by decide +kernel)⟩
def lw_privs_2 : List (MethodName × Nat) := [(⟨"RoyalUrTableModel", "layTable", "(I)V"⟩, 19), (⟨"RoyalUrTableModel", "behindThrow", "(III)I"⟩, 19), (⟨"RoyalUrTableModel", "starts", "(I)V"⟩, 19), (⟨"RoyalUrTableModel", "ended", "(IIII)I"⟩, 19), (⟨"RoyalUrTableModel", "fails", "(I)I"⟩, 19), (⟨"RoyalUrTableModel", "countMoves", "(I)I"⟩, 19), (⟨"RoyalUrTableModel", "progressOf", "([III)I"⟩, 19), (⟨"RoyalUrTableModel", "worthNow", "(I)I"⟩, 19), (⟨"RoyalUrTableModel", "lays", "()V"⟩, 19), (⟨"RoyalUrTableModel", "worthOf", "(II)I"⟩, 19), (⟨"RoyalUrTableModel", "enters", "(II)V"⟩, 19), (⟨"RoyalUrTableModel", "leaf", "(II)I"⟩, 19), (⟨"RoyalUrTableModel", "onlyOne", "([III)I"⟩, 19), (⟨"RoyalUrTableModel", "goesOn", "(I)Z"⟩, 19), (⟨"RoyalUrTableModel", "copies", "(I)V"⟩, 19), (⟨"RoyalUrTableModel", "takes", "(III)V"⟩, 19)]
theorem lw_r2 : ∀ q ∈ lw_privs_2, lw_okq q := List.forall_mem_cons.mpr ⟨lw_p16, List.forall_mem_cons.mpr ⟨lw_p17, List.forall_mem_cons.mpr ⟨lw_p18, List.forall_mem_cons.mpr ⟨lw_p19, List.forall_mem_cons.mpr ⟨lw_p20, List.forall_mem_cons.mpr ⟨lw_p21, List.forall_mem_cons.mpr ⟨lw_p22, List.forall_mem_cons.mpr ⟨lw_p23, List.forall_mem_cons.mpr ⟨lw_p24, List.forall_mem_cons.mpr ⟨lw_p25, List.forall_mem_cons.mpr ⟨lw_p26, List.forall_mem_cons.mpr ⟨lw_p27, List.forall_mem_cons.mpr ⟨lw_p28, List.forall_mem_cons.mpr ⟨lw_p29, List.forall_mem_cons.mpr ⟨lw_p30, List.forall_mem_cons.mpr ⟨lw_p31, fun _ h => absurd h List.not_mem_nil⟩⟩⟩⟩⟩⟩⟩⟩⟩⟩⟩⟩⟩⟩⟩⟩
theorem lw_p32 : lw_okq (⟨"RoyalUrTableModel", "layBehind", "(I)V"⟩, 19) := ⟨⟨by decide +kernel, by decide +kernel⟩, List.mem_of_getElem? (i := 405) (by decide +kernel), List.mem_of_getElem? (i := 622) (by decide +kernel), List.mem_of_getElem? (i := 623) (by decide +kernel)⟩
def lw_privs_3 : List (MethodName × Nat) := [(⟨"RoyalUrTableModel", "layBehind", "(I)V"⟩, 19)]
theorem lw_r3 : ∀ q ∈ lw_privs_3, lw_okq q := List.forall_mem_cons.mpr ⟨lw_p32, fun _ h => absurd h List.not_mem_nil⟩
def lw_privs : List (MethodName × Nat) := lw_privs_1 ++ (lw_privs_2 ++ (lw_privs_3))
def lw_tbl : List Cond := k2_sels lw_privs ++ tables_1
theorem lw_privs_ok : ∀ q ∈ lw_privs, lw_okq q := by
  show ∀ q ∈ lw_privs_1 ++ (lw_privs_2 ++ (lw_privs_3)), lw_okq q
  exact List.forall_mem_append.mpr ⟨lw_r1, List.forall_mem_append.mpr ⟨lw_r2, lw_r3⟩⟩
/-- the streams that the claim lets the run draw from -/
abbrev lw_cs : List Choice := [Jvm.Choice.named "NaN.bits"]
theorem lw_bits : nanBits ∈ lw_cs := by first | decide | exact List.mem_cons_self | simp [lw_cs, nanBits]
end
section
/-! ===== BEGIN words of one list among another's, by their places ===== -/
theorem goodIn_r {big : List Cond} (ws : List Cond) (ps : List Nat) (hp : ws = ps.filterMap (fun i => big[i]?)) (h : ws.all goodWord = true) : GoodIn big ws := by
  intro w hw
  have h1 := List.all_eq_true.mp h w hw
  rw [hp] at hw
  obtain ⟨i, -, hi⟩ := List.mem_filterMap.mp hw
  have hm : w ∈ big := by first | exact List.mem_of_getElem? hi | exact List.getElem?_mem hi
  exact ⟨hm, good_of_word h1⟩
theorem goodIn_app {big a b : List Cond} (ha : GoodIn big a) (hb : GoodIn big b) : GoodIn big (a ++ b) := fun w h => (List.mem_append.mp h).elim (ha w) (hb w)
theorem goodIn_ca {big a b : List Cond} {c : Cond} (ha : GoodIn big (c :: a)) (hb : GoodIn big b) : GoodIn big (c :: (a ++ b)) := fun w h => (List.mem_cons.mp h).elim (fun e => ha w (List.mem_cons.mpr (Or.inl e))) (fun h => (List.mem_append.mp h).elim (fun h => ha w (List.mem_cons.mpr (Or.inr h))) (hb w))
theorem goodIn_sub {big ws : List Cond} (hm : ∀ w ∈ ws, w ∈ big) (h : ws.all goodWord = true) : GoodIn big ws := fun w hw => ⟨hm w hw, good_of_word (List.all_eq_true.mp h w hw)⟩
/-! ===== END ===== -/

/-! ===== BEGIN exceptions that leave a method, and their catching by the caller (launches without stack traces) ===== -/
section VXA
/-! The laws vx_back, vx_callV, vx_callS, vx_callSW, vx_throw0, vx_throwS follow proofs of the library, with one case more: JvmDerived/Free/Laws.lean (Back.of_free), Shelf42/LK1.lean (callV, callS), Shelf/KitTraced.lean (throwNew0V, throwNewS). -/
/-- where a method has thrown q: the class by its name, the cell, what was written, the world -/
def vx_T (XC : String → State → State → Prop) (st : State) (q : Addr) (t : State) (mc ms : Nat) (free : Addr → Prop) : Prop :=
  ∃ (E : String) (ce : Cell) (L : List Loc), XC E st t ∧ t.heap[q]? = some ce ∧ ce.vm = .none ∧ st.vm.findClass E = some ce.cls ∧ st.WarmedH t.vm ∧ st.sameButNew ({ t with vm := st.vm } : State) L mc ms ∧ ∀ z ∈ L, free z.base
def vx_Q (Qc : Array Value → State → Outcome → State → Prop) (XC : String → State → State → Prop) (mc ms : Nat) (free : Addr → Prop) : Array Value → State → Outcome → State → Prop := fun a st o t =>
  (Qc a st o t ∧ ∃ L, FrameEnd st o t L mc ms ∧ ∀ q ∈ L, free q.base) ∨ ∃ q, o = .threw q ∧ vx_T XC st q t mc ms free
/-- a callee that returns or throws -/
def vx_Met (l : Launch) (y : MethodName) (ws : List Cond) (rm : Room) (Pc : Array Value → State → Prop) (Qc : Array Value → State → Outcome → State → Prop) (XC : String → State → State → Prop) (mc ms : Nat) (free : Addr → Prop) : Prop :=
  MetFree l y (headSpec ws rm) Pc (fun _ _ _ _ _ => True) (vx_Q Qc XC mc ms free)
def vx_Post (XC : String → State → State → Prop) (mc ms : Nat) (free : Addr → Prop) : Pt → Array Value → Addr → Pt → Prop := fun A a q B =>
  ∃ (g : JFrame) (mk : MethodId) (t : State) (L : List Loc) (E : String) (ce : Cell), B.U.heap = t.heap ∧ B.U.vm = t.vm ∧ XC E (A.U.calling g mk a) t ∧ t.heap[q]? = some ce ∧ ce.vm = .none ∧ A.U.vm.findClass E = some ce.cls ∧ B.locs = A.locs ++ L ∧ (∀ z ∈ L, free z.base) ∧ B.cells = A.cells + mc ∧ B.slots = A.slots + ms
def vx_Back (l : Launch) (R : Room) (p : Program) (e : Env) (below : List Frame) (s : State) (sargs : Array Value) (y : MethodName) (len W9 : Nat)
    (Pre : Pt → Array Value → Prop) (Post : Pt → Array Value → Option Value → Pt → Prop) (PostX : Pt → Array Value → Addr → Pt → Prop) : Prop :=
  ∀ (m : MethodId) (meth : Method) (c : Code) (A : Pt) (g : JFrame) (ig : Instr) (mk : MethodId) (a : Array Value),
    Stand p l e R s m sargs below meth c A.U A.locs A.cells A.slots → g.method = m → g.locals.size = c.maxLocals → decode c.code g.pc = .ok (ig, len) →
    2 * g.monitorRoom + (g.stack.map fun v => v.category).sum ≤ W9 → A.U.methodNamed? y = some mk → Pre A a →
    (∃ (v : Option Value) (B : Pt), Stand p l e R s m sargs below meth c B.U B.locs B.cells B.slots ∧ Post A a v B ∧
      Steps p.tables e below (doInvoke e (A.U.setTop g) [] mk a).1 (B.U.setTop { g with pc := g.pc + len, stack := v.toList ++ g.stack })) ∨
    (∃ (q : Addr) (B : Pt), Stand p l e R s m sargs below meth c B.U B.locs B.cells B.slots ∧ PostX A a q B ∧
      Steps p.tables e below (doInvoke e (A.U.setTop g) [] mk a).1 ((B.U.setTop g).pushFrame (.throwing q)))
section Payer
variable {l : Launch} {R : Room} {p : Program} {e : Env} {below : List Frame} {s : State} {sargs : Array Value} {y : MethodName} {len W9 : Nat}
theorem vx_back {ws : List Cond} {rm : Room} {Pc : Array Value → State → Prop} {Qc : Array Value → State → Outcome → State → Prop} {XC : String → State → State → Prop} {mc ms : Nat} {free : Addr → Prop} {bytes : ByteArray} {maxL : Nat} {ret : Option FieldType}
    (hM : vx_Met l y ws rm Pc Qc XC mc ms free) (hblind : FrameBlind Pc) (hrc : rm.cells = mc) (hrs : rm.slots = ms)
    (hframes : rm.frames + 1 ≤ R.frames) (hlocals : W9 + (maxL + 11) + rm.locals ≤ R.locals)
    (hws : ∀ w ∈ ws, ∀ a' U, s.WarmedH U.vm → w.before a' U = true) (hcode : Cond.code y bytes maxL ret ∈ ws) (hinit : ∀ a' U, s.WarmedH U.vm → (Cond.initialized y.cls).before a' U = true) :
    vx_Back l R p e below s sargs y len W9 (PreOf R mc ms Pc) (PostOf Qc mc ms free) (vx_Post XC mc ms free) := by
  intro m meth c A g ig mk a X hg hsize hdg hW hn hp
  have h1 : (headSpec ws rm).pre.before a A.U = true := atoms_intro fun w hw => hws w hw _ _ X.warmed
  have h2 : (Cond.code y bytes maxL ret).before a A.U = true := hws _ hcode _ _ X.warmed
  have h3 : (Cond.initialized y.cls).before a A.U = true := hinit _ _ X.warmed
  have h4 : A.cells + (headSpec ws rm).room.cells ≤ R.cells := by rw [show (headSpec ws rm).room.cells = mc from hrc]; exact hp.1
  have h5 : A.slots + (headSpec ws rm).room.slots ≤ R.slots := by rw [show (headSpec ws rm).room.slots = ms from hrs]; exact hp.2.1
  have hPc : Pc a (A.U.calling g mk a) := hblind _ _ _ _ hp.2.2
  obtain ⟨U, Ls, c0, s0⟩ := A
  dsimp only [Pt.U, Pt.locs, Pt.cells, Pt.slots] at h1 h2 h3 h4 h5 X hn hPc ⊢
  obtain ⟨methY, cY, hmY, hcY, -, hlY, -, -, -, -⟩ := Cond.code_spec hn h2
  obtain ⟨kY, hkY, -⟩ := className_of_methodNamed hn
  have hinitY : kY.init = .initialized := Cond.initialized_spec (findClass_of_methodNamed hn) hkY h3
  have h : At U g.method c below := by rw [hg]; exact X.here
  have hlocals9 : W9 + (maxL + 11) + (headSpec ws rm).room.locals ≤ R.locals := hlocals
  have happ : (headSpec ws rm).appliesLoose y e.platform (U.calling g mk a) = true :=
    Spec.appliesLoose_calling (g := g) h hdg hn hkY hinitY
      (X.room_calling (g := g) (R' := (headSpec ws rm).room) hsize hmY hcY hframes (by rw [hlY]; omega) h4 h5) h1
  obtain ⟨mid, hmid⟩ := h.above
  have hfr : (U.setTop g).frames = (.java g :: mid) ++ below := by rw [State.frames_setTop' g h.top, hmid]; rfl
  obtain ⟨o, s₂, hsteps, -, hend, hq⟩ := Steps.callFree hM p X.admits X.cas X.clock (acts := []) hfr happ hPc trivial
  have hq' : vx_Q Qc XC mc ms free a (U.calling g mk a) o s₂ := hq
  rw [State.frames_setTop' g h.top] at hend
  obtain ⟨g₀, hg0⟩ := Option.isSome_iff_exists.mp h.top
  obtain ⟨r, hr⟩ := State.topJava?_eq_some.mp hg0
  have hr' : (({ U with heap := s₂.heap, slotsUsed := s₂.slotsUsed } : State).setVm s₂.vm).frames = .java g₀ :: r := hr
  rcases hq' with ⟨hqc, L, hfe, hL⟩ | ⟨q, rfl, E, ce, L, hx, hce, hcv, hcl, hW₂, hsm, hL⟩
  · obtain ⟨⟨v, rfl⟩, hW₂, e2, q2, q3, q4, q5, q6⟩ := id hfe
    have e3 : s₂ = ({ (U.calling g mk a).setFrames s₂.frames with heap := s₂.heap, slotsUsed := s₂.slotsUsed } : State).setVm s₂.vm := by
      have : s₂ = ({ s₂ with vm := (U.calling g mk a).vm } : State).setVm s₂.vm := rfl
      rw [e2] at this
      exact this
    obtain ⟨c₂, i₂, len₂, hc₂, hd₂, hf₂⟩ := hend
    have hW' : U.WarmedH s₂.vm := hW₂
    have hcc : c₂ = c := by
      have h1 : s₂.code? g.method = U.code? g.method := by
        rw [State.code?_eq, State.code?_eq, hW'.alike.method?]
      exact Option.some.inj (hc₂.symm.trans (h1.trans h.code))
    subst hcc
    have hlen : len₂ = len := by rw [hdg] at hd₂; cases hd₂; rfl
    subst hlen
    have hs₂ : s₂ = (({ U with heap := s₂.heap, slotsUsed := s₂.slotsUsed } : State).setVm s₂.vm).setTop { g with pc := g.pc + len₂, stack := v.toList ++ g.stack } := by
      refine e3.trans ?_
      rw [hf₂, State.calling_eq h.top, State.setFrames_setFrames, State.setTop_of_frames _ hr', hr]
      rfl
    have hsame : U.sameButNew ({ U with heap := s₂.heap, slotsUsed := s₂.slotsUsed } : State) L mc ms := by
      refine ⟨?_, q2, q3, q4, q5, q6⟩
      obtain ⟨t, ht, -⟩ := State.frames_cons hr
      show ({ U with heap := s₂.heap, slotsUsed := s₂.slotsUsed } : State) = { U.setFrames U.frames with heap := s₂.heap, slotsUsed := s₂.slotsUsed }
      rw [State.setFrames_self ht]
    subst hg
    refine Or.inl ⟨v, ⟨(({ U with heap := s₂.heap, slotsUsed := s₂.slotsUsed } : State).setVm s₂.vm), Ls ++ L, c0 + mc, s0 + ms⟩,
      ⟨X.admits, X.cas, X.clock, X.frames, X.room, X.hears, X.method, X.code, (X.here.setHeapUsed s₂.heap s₂.slotsUsed).setVm hW'.alike, X.tail, State.WarmedH.trans X.warmed hW', X.limits, X.bytes, X.same.trans (hsame.setVm s.vm)⟩,
      ⟨g, mk, s₂, L, rfl, rfl, hqc, rfl, hL, rfl, rfl⟩, ?_⟩
    show Steps p.tables e below _ ((({ U with heap := s₂.heap, slotsUsed := s₂.slotsUsed } : State).setVm s₂.vm).setTop { g with pc := g.pc + len₂, stack := v.toList ++ g.stack })
    rw [← hs₂]
    exact hsteps
  · obtain ⟨e2, q2, q3, q4, q5, q6⟩ := id hsm
    have e3 : s₂ = ({ (U.calling g mk a).setFrames s₂.frames with heap := s₂.heap, slotsUsed := s₂.slotsUsed } : State).setVm s₂.vm := by
      have : s₂ = ({ s₂ with vm := (U.calling g mk a).vm } : State).setVm s₂.vm := rfl
      rw [e2] at this
      exact this
    have hf₂ : s₂.frames = .throwing q :: .java g :: U.frames.tail := hend
    have hW' : U.WarmedH s₂.vm := hW₂
    have hs₂ : s₂ = ((({ U with heap := s₂.heap, slotsUsed := s₂.slotsUsed } : State).setVm s₂.vm).setTop g).pushFrame (.throwing q) := by
      refine e3.trans ?_
      rw [hf₂, State.calling_eq h.top, State.setFrames_setFrames, State.pushFrame, State.frames_setTop _ hr', State.setTop_of_frames _ hr', State.setFrames_setFrames, hr]
      rfl
    have hsame : U.sameButNew ({ U with heap := s₂.heap, slotsUsed := s₂.slotsUsed } : State) L mc ms := by
      refine ⟨?_, q2, q3, q4, q5, q6⟩
      obtain ⟨t, ht, -⟩ := State.frames_cons hr
      show ({ U with heap := s₂.heap, slotsUsed := s₂.slotsUsed } : State) = { U.setFrames U.frames with heap := s₂.heap, slotsUsed := s₂.slotsUsed }
      rw [State.setFrames_self ht]
    subst hg
    refine Or.inr ⟨q, ⟨(({ U with heap := s₂.heap, slotsUsed := s₂.slotsUsed } : State).setVm s₂.vm), Ls ++ L, c0 + mc, s0 + ms⟩,
      ⟨X.admits, X.cas, X.clock, X.frames, X.room, X.hears, X.method, X.code, (X.here.setHeapUsed s₂.heap s₂.slotsUsed).setVm hW'.alike, X.tail, State.WarmedH.trans X.warmed hW', X.limits, X.bytes, X.same.trans (hsame.setVm s.vm)⟩,
      ⟨g, mk, s₂, L, E, ce, rfl, rfl, hx, hce, hcv, hcl, rfl, hL, rfl, rfl⟩, ?_⟩
    show Steps p.tables e below _ (((({ U with heap := s₂.heap, slotsUsed := s₂.slotsUsed } : State).setVm s₂.vm).setTop g).pushFrame (.throwing q))
    rw [← hs₂]
    exact hsteps
end Payer
section Calls
variable {p : Program} {l : Launch} {e : Env} {R : Room} {s : State} {m : MethodId} {args : Array Value} {below : List Frame} {meth : Method} {c : Code} {T : State} {locs : List Loc} {cells slots : Nat}
theorem vx_callV (X : Stand p l e R s m args below meth c T locs cells slots) (hexec : p.tables.exec = Jvm.exec) {own C : String} {index : Nat} {y : MethodName} {bytes : ByteArray} {maxL : Nat} {ret : Option FieldType}
    (hown : s.vm.findClass own = some m.cls) (hlink : (Cond.methodLink own index y).before args s = true) (hinst : (Cond.instanceMethod y).before args s = true) (hsel : (Cond.selects C y y).before args s = true)
    (hcode : (Cond.code y bytes maxL ret).before args s = true) (hy : y.cls ≠ "java/lang/invoke/MethodHandle" ∧ y.cls ≠ "java/lang/invoke/VarHandle")
    {W9 : Nat} {Pre : Pt → Array Value → Prop} {Post : Pt → Array Value → Option Value → Pt → Prop} {PostX : Pt → Array Value → Addr → Pt → Prop} (hK : vx_Back l R p e below s args y 3 W9 Pre Post PostX)
    {b : Addr} {cellB : Cell} (hcell : T.heap[b]? = some cellB) (hobj : cellB.vm.isStatics = false) (hcls : s.vm.findClass C = some cellB.cls)
    {g : JFrame} (hg : g.method = m) (hsize : g.locals.size = c.maxLocals) {argsL rest : List Value} (hlen : ∀ sig, parseMethodDescriptor y.desc = some sig → argsL.length = sig.parameters.length)
    (hstack : g.stack = argsL.reverse ++ .ref b :: rest) (hW : 2 * g.monitorRoom + (rest.map fun v => v.category).sum ≤ W9) (hdg : decode c.code g.pc = .ok (.invokevirtual index, 3))
    (hpre : ∀ vm₁, s.WarmedH vm₁ → Pre ⟨T.setVm vm₁, locs, cells, slots⟩ (Value.ref b :: argsL).toArray) :
    (∃ (v : Option Value) (vm₁ : Vm) (B : Pt), s.WarmedH vm₁ ∧ Stand p l e R s m args below meth c B.U B.locs B.cells B.slots ∧ Post ⟨T.setVm vm₁, locs, cells, slots⟩ (Value.ref b :: argsL).toArray v B ∧
      ∀ target, Steps p.tables e below (B.U.setTop { g with pc := g.pc + 3, stack := v.toList ++ rest }) target → Steps p.tables e below (T.setTop g) target) ∨
    (∃ (q : Addr) (vm₁ : Vm) (B : Pt), s.WarmedH vm₁ ∧ Stand p l e R s m args below meth c B.U B.locs B.cells B.slots ∧ PostX ⟨T.setVm vm₁, locs, cells, slots⟩ (Value.ref b :: argsL).toArray q B ∧
      Steps p.tables e below (T.setTop g) ((B.U.setTop { g with stack := rest }).pushFrame (.throwing q))) := by
  obtain ⟨mk, methM, hnamed, hmethM, hstM, habM⟩ := Cond.instanceMethod_spec hinst
  obtain ⟨methM', cM, hmethM', -, -, -, -, -, -, hsigM⟩ := Cond.code_spec hnamed hcode
  cases hmethM.symm.trans hmethM'
  obtain ⟨c2, r2, m2, q1, q2, q3, q4, kP, hkP, hkPi⟩ := Cond.selects_spec hsel
  cases hcls.symm.trans q1
  cases (State.methodFound?_of_named hnamed hy).symm.trans q2
  cases hnamed.symm.trans q3
  have hselP : selectMethod e.platform s.vm cellB.cls mk = .method mk := by rw [Launch.admits_selectMethod X.admits]; exact q4
  obtain ⟨vm₁, X₁, hstep₁⟩ := X.invokevirtual hexec hown hlink hnamed hmethM hstM hkP hkPi hy (a := b) (cell := cellB) hcell
    (fun z h => by rw [h] at hobj; cases hobj) hselP hmethM habM hkP hkPi (g := g) hg (argsL := argsL) (rest := rest) (hlen _ hsigM) hstack hdg
  rcases hK m meth c ⟨T.setVm vm₁, locs, cells, slots⟩ { g with stack := rest } (.invokevirtual index) mk (Value.ref b :: argsL).toArray X₁ hg hsize hdg hW (X₁.named hnamed) (hpre vm₁ X₁.warmed) with ⟨v, B, X', hpost, hsteps⟩ | ⟨q, B, X', hpost, hsteps⟩
  · exact Or.inl ⟨v, vm₁, B, X₁.warmed, X', hpost, fun target h => hstep₁ _ fun acts => by rw [doInvoke_state]; exact hsteps.trans h⟩
  · exact Or.inr ⟨q, vm₁, B, X₁.warmed, X', hpost, hstep₁ _ fun acts => by rw [doInvoke_state]; exact hsteps⟩
theorem vx_callS (X : Stand p l e R s m args below meth c T locs cells slots) (hexec : p.tables.exec = Jvm.exec) {own : String} {index : Nat} {y : MethodName} {bytes : ByteArray} {maxL : Nat} {ret : Option FieldType}
    (hown : s.vm.findClass own = some m.cls) (hlink : (Cond.methodLink own index y).before args s = true) (hstat : (Cond.static y).before args s = true) (hinit : (Cond.initialized y.cls).before args s = true)
    (hcode : (Cond.code y bytes maxL ret).before args s = true) (hy : y.cls ≠ "java/lang/invoke/MethodHandle" ∧ y.cls ≠ "java/lang/invoke/VarHandle")
    {W9 : Nat} {Pre : Pt → Array Value → Prop} {Post : Pt → Array Value → Option Value → Pt → Prop} {PostX : Pt → Array Value → Addr → Pt → Prop} (hK : vx_Back l R p e below s args y 3 W9 Pre Post PostX)
    {g : JFrame} (hg : g.method = m) (hsize : g.locals.size = c.maxLocals) {argsL rest : List Value} (hlen : ∀ sig, parseMethodDescriptor y.desc = some sig → argsL.length = sig.parameters.length)
    (hstack : g.stack = argsL.reverse ++ rest) (hW : 2 * g.monitorRoom + (rest.map fun v => v.category).sum ≤ W9) (hdg : decode c.code g.pc = .ok (.invokestatic index, 3))
    (hpre : ∀ vm₁, s.WarmedH vm₁ → Pre ⟨T.setVm vm₁, locs, cells, slots⟩ argsL.toArray) :
    (∃ (v : Option Value) (vm₁ : Vm) (B : Pt), s.WarmedH vm₁ ∧ Stand p l e R s m args below meth c B.U B.locs B.cells B.slots ∧ Post ⟨T.setVm vm₁, locs, cells, slots⟩ argsL.toArray v B ∧
      ∀ target, Steps p.tables e below (B.U.setTop { g with pc := g.pc + 3, stack := v.toList ++ rest }) target → Steps p.tables e below (T.setTop g) target) ∨
    (∃ (q : Addr) (vm₁ : Vm) (B : Pt), s.WarmedH vm₁ ∧ Stand p l e R s m args below meth c B.U B.locs B.cells B.slots ∧ PostX ⟨T.setVm vm₁, locs, cells, slots⟩ argsL.toArray q B ∧
      Steps p.tables e below (T.setTop g) ((B.U.setTop { g with stack := rest }).pushFrame (.throwing q))) := by
  obtain ⟨mk, hnamed⟩ := Cond.code_named hcode
  obtain ⟨methM, cM, hmethM, -, -, -, -, -, -, hsigM⟩ := Cond.code_spec hnamed hcode
  have hstatic : methM.isStatic = true := Cond.static_spec hnamed hmethM hstat
  obtain ⟨kP, hkP, -⟩ := className_of_methodNamed hnamed
  have hinitP : kP.init = .initialized := Cond.initialized_spec (findClass_of_methodNamed hnamed) hkP hinit
  obtain ⟨vm₁, X₁, hstep₁⟩ := X.invokestatic hexec hown hlink hnamed hmethM hstatic hkP hinitP hy (g := g) hg (argsL := argsL) (rest := rest) (hlen _ hsigM) hstack hdg
  rcases hK m meth c ⟨T.setVm vm₁, locs, cells, slots⟩ { g with stack := rest } (.invokestatic index) mk argsL.toArray X₁ hg hsize hdg hW (X₁.named hnamed) (hpre vm₁ X₁.warmed) with ⟨v, B, X', hpost, hsteps⟩ | ⟨q, B, X', hpost, hsteps⟩
  · exact Or.inl ⟨v, vm₁, B, X₁.warmed, X', hpost, fun target h => hstep₁ _ fun acts => by rw [doInvoke_state]; exact hsteps.trans h⟩
  · exact Or.inr ⟨q, vm₁, B, X₁.warmed, X', hpost, hstep₁ _ fun acts => by rw [doInvoke_state]; exact hsteps⟩
end Calls
theorem vx_cls {s : State} {T : State} {vm₁ : Vm} {E : String} {k : ClassId} (hW : s.WarmedH vm₁) (h : (T.setVm vm₁).vm.findClass E = some k) : s.vm.findClass E = some k := by
  have h1 : vm₁.findClass E = some k := h
  rw [hW.alike.findClass] at h1
  exact h1
/-- the method's frame g, with q thrown over it -/
def vx_W (p : Program) (l : Launch) (e : Env) (R : Room) (s : State) (m : MethodId) (args : Array Value) (below : List Frame) (meth : Method) (c : Code) (H : Heap) (locs : List Loc) (cells slots : Nat) (Q : State → Prop) (g : JFrame) (q : Addr) : Prop :=
  ∀ T : State, T.heap = H → Stand p l e R s m args below meth c T locs cells slots → ∃ t, Steps p.tables e below ((T.setTop g).pushFrame (.throwing q)) t ∧ Q t
def vx_Run (p : Program) (l : Launch) (e : Env) (R : Room) (s : State) (m : MethodId) (args : Array Value) (below : List Frame) (meth : Method) (c : Code) (H : Heap) (locs : List Loc) (cells slots mc ms : Nat) (g : JFrame) (rest : List Value) (Qa : State → Outcome → State → Prop) (XC : String → State → State → Prop) (free : Addr → Prop) : Prop :=
  ∀ T : State, T.heap = H → Stand p l e R s m args below meth c T locs cells slots →
    (∃ (v : Option Value) (st₀ t T' : State) (L : List Loc), st₀.heap = H ∧ Stand p l e R s m args below meth c T' (locs ++ L) (cells + mc) (slots + ms) ∧ (∀ q ∈ L, free q.base) ∧ T'.heap = t.heap ∧ T'.vm = t.vm ∧ Qa st₀ (.returned v) t ∧
      Goes p e below T g T' { g with pc := g.pc + 3, stack := v.toList ++ rest }) ∨
    (∃ (q : Addr) (st₀ t T' : State) (L : List Loc) (E : String) (ce : Cell), st₀.heap = H ∧ Stand p l e R s m args below meth c T' (locs ++ L) (cells + mc) (slots + ms) ∧ (∀ z ∈ L, free z.base) ∧ T'.heap = t.heap ∧ T'.vm = t.vm ∧ XC E st₀ t ∧ t.heap[q]? = some ce ∧ ce.vm = .none ∧ s.vm.findClass E = some ce.cls ∧
      Steps p.tables e below (T.setTop g) ((T'.setTop { g with stack := rest }).pushFrame (.throwing q)))
def vx_X {S : Type} (px : S → Prop) (B : String → S → State → Prop) (A : Nat → Prop) : String → State → State → Prop := fun E st t => ∃ u : S, px u ∧ B E u t ∧ va_F A st t
section Runs
variable {p : Program} {l : Launch} {e : Env} {R : Room} {s : State} {m : MethodId} {args : Array Value} {below : List Frame} {meth : Method} {c : Code} {H : Heap} {locs : List Loc} {cells slots : Nat}
variable {y : MethodName} {bytes cc : ByteArray} {maxL nL mc ms n index : Nat} {ret : Option FieldType} {ws : List Cond} {rm : Room} {Pc : Array Value → State → Prop} {Qc : Array Value → State → Outcome → State → Prop} {XC : String → State → State → Prop} {free : Addr → Prop} {Ts : List Cond} {own C : String} {b : Addr} {As rest : List Value} {g : JFrame}
theorem vx_callBack (cb : CallB R s args own index y bytes maxL ret ws rm mc ms n) (hM : vx_Met l y ws rm Pc Qc XC mc ms free) (hbl : FrameBlind Pc) : vx_Back l R p e below s args y 3 8 (PreOf R mc ms Pc) (PostOf Qc mc ms free) (vx_Post XC mc ms free) := by
  obtain ⟨hrc, hrs, hfr, hlo, hws, hcw, -, hini, -⟩ := cb
  exact vx_back (bytes := bytes) (maxL := maxL) (ret := ret) hM hbl hrc hrs hfr hlo hws hcw (fun a' U hW => word_at hW (Or.inl (by first | rfl | simp [Cond.onTables, Cond.keeps, Cond.steady])) hini)
theorem vx_runV (S : CallFix p m c cc nL s args Ts own) (hM : vx_Met l y ws rm Pc Qc XC mc ms free) (cw : CallW R s args own C index y bytes maxL ret ws rm mc ms n) (hp : PreV s H C b Pc As)
    (hg : g.method = m) (hn : As.length = n) (hsize : g.locals.size = nL) (hstack : g.stack = As.reverse ++ .ref b :: rest) (hW : 2 * g.monitorRoom + (rest.map fun v => v.category).sum ≤ 8) (hdg : decode cc g.pc = .ok (.invokevirtual index, 3)) (hf : cells + mc ≤ R.cells ∧ slots + ms ≤ R.slots) :
    vx_Run p l e R s m args below meth c H locs cells slots mc ms g rest (Qc (Value.ref b :: As).toArray) XC free := by
  have hK : vx_Back l R p e below s args y 3 8 (PreOf R mc ms Pc) (PostOf Qc mc ms free) (vx_Post XC mc ms free) := vx_callBack cw.1 hM hp.1
  obtain ⟨⟨-, -, -, -, -, -, hcode, -, hy, hlen, hl⟩, hin, hse⟩ := cw
  obtain ⟨hx, hb, hml, ho, -⟩ := S
  obtain ⟨-, ⟨cellB, hcB, hoB, hclB⟩, hPc⟩ := hp
  intro T hT X
  rcases vx_callV X hx (C := C) (bytes := bytes) (maxL := maxL) (ret := ret) ho hl hin hse hcode hy hK (by rw [hT]; exact hcB) hoB hclB hg (hsize.trans hml.symm) (argsL := As) (rest := rest) (fun sig h => hn.trans (hlen sig h)) hstack hW (by rw [hb]; exact hdg)
    (fun vm₁ hW₁ => ⟨hf.1, hf.2, hPc (T.setVm vm₁) hT hW₁⟩) with ⟨v, vm₁, ⟨U', l2, c2, s2⟩, hW₁, X', ⟨g', mk, t, L, e1, e2, hq, h1, hL, h2, h3⟩, st⟩ | ⟨q, vm₁, ⟨U', l2, c2, s2⟩, hW₁, X', ⟨g', mk, t, L, E, ce, e1, e2, hq, hce, hcv, hcl, h1, hL, h2, h3⟩, st⟩
  · dsimp only [Pt.U, Pt.locs, Pt.cells, Pt.slots] at X' e1 e2 h1 h2 h3 st
    subst h1; subst h2; subst h3
    exact Or.inl ⟨v, (T.setVm vm₁).calling g' mk (Value.ref b :: As).toArray, t, U', L, hT, X', hL, e1, e2, hq, st⟩
  · dsimp only [Pt.U, Pt.locs, Pt.cells, Pt.slots] at X' e1 e2 h1 h2 h3 st hcl
    subst h1; subst h2; subst h3
    exact Or.inr ⟨q, (T.setVm vm₁).calling g' mk (Value.ref b :: As).toArray, t, U', L, E, ce, hT, X', hL, e1, e2, hq, hce, hcv, vx_cls hW₁ hcl, st⟩
theorem vx_runS (S : CallFix p m c cc nL s args Ts own) (hM : vx_Met l y ws rm Pc Qc XC mc ms free) (cw : CallB R s args own index y bytes maxL ret ws rm mc ms n ∧ (Cond.static y).before args s = true) (hp : PreS s H Pc As)
    (hg : g.method = m) (hn : As.length = n) (hsize : g.locals.size = nL) (hstack : g.stack = As.reverse ++ rest) (hW : 2 * g.monitorRoom + (rest.map fun v => v.category).sum ≤ 8) (hdg : decode cc g.pc = .ok (.invokestatic index, 3)) (hf : cells + mc ≤ R.cells ∧ slots + ms ≤ R.slots) :
    vx_Run p l e R s m args below meth c H locs cells slots mc ms g rest (Qc As.toArray) XC free := by
  have hK : vx_Back l R p e below s args y 3 8 (PreOf R mc ms Pc) (PostOf Qc mc ms free) (vx_Post XC mc ms free) := vx_callBack cw.1 hM hp.1
  obtain ⟨⟨-, -, -, -, -, -, hcode, hini, hy, hlen, hl⟩, hstt⟩ := cw
  obtain ⟨hx, hb, hml, ho, -⟩ := S
  intro T hT X
  rcases vx_callS X hx (bytes := bytes) (maxL := maxL) (ret := ret) ho hl hstt hini hcode hy hK hg (hsize.trans hml.symm) (argsL := As) (rest := rest) (fun sig h => hn.trans (hlen sig h)) hstack hW (by rw [hb]; exact hdg)
    (fun vm₁ hW₁ => ⟨hf.1, hf.2, hp.2 (T.setVm vm₁) hT hW₁⟩) with ⟨v, vm₁, ⟨U', l2, c2, s2⟩, hW₁, X', ⟨g', mk, t, L, e1, e2, hq, h1, hL, h2, h3⟩, st⟩ | ⟨q, vm₁, ⟨U', l2, c2, s2⟩, hW₁, X', ⟨g', mk, t, L, E, ce, e1, e2, hq, hce, hcv, hcl, h1, hL, h2, h3⟩, st⟩
  · dsimp only [Pt.U, Pt.locs, Pt.cells, Pt.slots] at X' e1 e2 h1 h2 h3 st
    subst h1; subst h2; subst h3
    exact Or.inl ⟨v, (T.setVm vm₁).calling g' mk As.toArray, t, U', L, hT, X', hL, e1, e2, hq, st⟩
  · dsimp only [Pt.U, Pt.locs, Pt.cells, Pt.slots] at X' e1 e2 h1 h2 h3 st hcl
    subst h1; subst h2; subst h3
    exact Or.inr ⟨q, (T.setVm vm₁).calling g' mk As.toArray, t, U', L, E, ce, hT, X', hL, e1, e2, hq, hce, hcv, vx_cls hW₁ hcl, st⟩
end Runs
section Rows
variable {p : Program} {l : Launch} {e : Env} {R : Room} {s : State} {m : MethodId} {args : Array Value} {below : List Frame} {meth : Method} {c : Code} {H : Heap} {locs : List Loc} {cells slots : Nat} {Q : State → Prop}
variable {mc ms : Nat} {free : Addr → Prop} {A0 A1 : Nat → Prop} {H0 : Heap} {a : Array Value} {pc : Nat} {ls : Array Slot} {st0 rest : List Value}
theorem vx_keep {st₀ t T' : State} {L : List Loc} (h0 : st₀.heap = H) (e1 : T'.heap = t.heap) (hS : va_S A0 H0 H locs) (hA : ∀ q, q < H.size → A1 q → A0 q) (hf : ∀ q, free q → A0 q) (hL : ∀ q ∈ L, free q.base) (hF : va_F A1 st₀ t) :
    H.size ≤ T'.heap.size ∧ (∀ q : Nat, q < H.size → ¬ A1 q → T'.heap[q]? = H[q]?) ∧ va_S A0 H0 T'.heap (locs ++ L) := by
  obtain ⟨hz, hk⟩ := hF
  rw [h0] at hz hk
  exact ⟨by rw [e1]; exact hz, fun q h1 h2 => by rw [e1]; exact hk q h1 h2,
    ⟨Nat.le_trans hS.1 (by rw [e1]; exact hz), fun q h1 h2 => by rw [e1, hk q (Nat.lt_of_lt_of_le h1 hS.1) (fun z => h2 (hA q (Nat.lt_of_lt_of_le h1 hS.1) z))]; exact hS.2.1 q h1 h2, fun q hq => by
      rcases List.mem_append.mp hq with h | h
      · exact hS.2.2 q h
      · exact hf _ (hL q h)⟩⟩
theorem vx_calli {S SX : Type} {post : Int32 → S → Prop} {px : SX → Prop} {B : S → State → Prop} {BX : String → SX → State → Prop} {AX : Nat → Prop} (hr : vx_Run p l e R s m args below meth c H locs cells slots mc ms (F0 m pc ls st0) rest (va_Qi post B A1 a) (vx_X px BX AX) free) (hS : va_S A0 H0 H locs) (hA : ∀ q, q < H.size → A1 q → A0 q) (hf : ∀ q, free q → A0 q) (hAX : ∀ q, q < H.size → AX q → A0 q)
    (kx : ∀ (E : String) (ce : Cell) (q9 : Addr) (u : SX) (t : State) (H1 : Heap) (locs1 : List Loc), t.heap = H1 → s.vm.Alike t.vm → px u → BX E u t → H.size ≤ H1.size → (∀ q : Nat, q < H.size → ¬ AX q → H1[q]? = H[q]?) → va_S A0 H0 H1 locs1 → H1[q9]? = some ce → ce.vm = .none → s.vm.findClass E = some ce.cls → vx_W p l e R s m args below meth c H1 locs1 (cells + mc) (slots + ms) Q (F0 m pc ls rest) q9)
    (kk : ∀ (r : Int32) (u : S) (t : State) (H1 : Heap) (locs1 : List Loc), t.heap = H1 → s.vm.Alike t.vm → post r u → B u t → H.size ≤ H1.size → (∀ q : Nat, q < H.size → ¬ A1 q → H1[q]? = H[q]?) → va_S A0 H0 H1 locs1 → W p l e R s m args below meth c H1 locs1 (cells + mc) (slots + ms) Q (F0 m (pc + 3) ls (.int r :: rest))) : W p l e R s m args below meth c H locs cells slots Q (F0 m pc ls st0) := by
  intro T hT X
  rcases hr T hT X with ⟨v, st₀, t, T', L, h0, X', hL, e1, e2, ⟨⟨r, u, hv, hp, hb⟩, hF⟩, st⟩ | ⟨q, st₀, t, T', L, E, ce, h0, X', hL, e1, e2, ⟨u, hp, hb, hF⟩, hce, hcv, hcl, st⟩
  · cases hv
    obtain ⟨k1, k2, k3⟩ := vx_keep h0 e1 hS hA hf hL hF
    obtain ⟨t2, a1, b1⟩ := kk r u t T'.heap (locs ++ L) e1.symm (by rw [← e2]; exact X'.warmed.alike) hp hb k1 k2 k3 T' rfl X'
    exact ⟨t2, st t2 a1, b1⟩
  · obtain ⟨k1, k2, k3⟩ := vx_keep h0 e1 hS hAX hf hL hF
    obtain ⟨t2, a1, b1⟩ := kx E ce q u t T'.heap (locs ++ L) e1.symm (by rw [← e2]; exact X'.warmed.alike) hp hb k1 k2 k3 (by rw [e1]; exact hce) hcv hcl T' rfl X'
    exact ⟨t2, st.trans a1, b1⟩
theorem vx_calll {S SX : Type} {post : Int64 → S → Prop} {px : SX → Prop} {B : S → State → Prop} {BX : String → SX → State → Prop} {AX : Nat → Prop} (hr : vx_Run p l e R s m args below meth c H locs cells slots mc ms (F0 m pc ls st0) rest (va_Ql post B A1 a) (vx_X px BX AX) free) (hS : va_S A0 H0 H locs) (hA : ∀ q, q < H.size → A1 q → A0 q) (hf : ∀ q, free q → A0 q) (hAX : ∀ q, q < H.size → AX q → A0 q)
    (kx : ∀ (E : String) (ce : Cell) (q9 : Addr) (u : SX) (t : State) (H1 : Heap) (locs1 : List Loc), t.heap = H1 → s.vm.Alike t.vm → px u → BX E u t → H.size ≤ H1.size → (∀ q : Nat, q < H.size → ¬ AX q → H1[q]? = H[q]?) → va_S A0 H0 H1 locs1 → H1[q9]? = some ce → ce.vm = .none → s.vm.findClass E = some ce.cls → vx_W p l e R s m args below meth c H1 locs1 (cells + mc) (slots + ms) Q (F0 m pc ls rest) q9)
    (kk : ∀ (r : Int64) (u : S) (t : State) (H1 : Heap) (locs1 : List Loc), t.heap = H1 → s.vm.Alike t.vm → post r u → B u t → H.size ≤ H1.size → (∀ q : Nat, q < H.size → ¬ A1 q → H1[q]? = H[q]?) → va_S A0 H0 H1 locs1 → W p l e R s m args below meth c H1 locs1 (cells + mc) (slots + ms) Q (F0 m (pc + 3) ls (.long r :: rest))) : W p l e R s m args below meth c H locs cells slots Q (F0 m pc ls st0) := by
  intro T hT X
  rcases hr T hT X with ⟨v, st₀, t, T', L, h0, X', hL, e1, e2, ⟨⟨r, u, hv, hp, hb⟩, hF⟩, st⟩ | ⟨q, st₀, t, T', L, E, ce, h0, X', hL, e1, e2, ⟨u, hp, hb, hF⟩, hce, hcv, hcl, st⟩
  · cases hv
    obtain ⟨k1, k2, k3⟩ := vx_keep h0 e1 hS hA hf hL hF
    obtain ⟨t2, a1, b1⟩ := kk r u t T'.heap (locs ++ L) e1.symm (by rw [← e2]; exact X'.warmed.alike) hp hb k1 k2 k3 T' rfl X'
    exact ⟨t2, st t2 a1, b1⟩
  · obtain ⟨k1, k2, k3⟩ := vx_keep h0 e1 hS hAX hf hL hF
    obtain ⟨t2, a1, b1⟩ := kx E ce q u t T'.heap (locs ++ L) e1.symm (by rw [← e2]; exact X'.warmed.alike) hp hb k1 k2 k3 (by rw [e1]; exact hce) hcv hcl T' rfl X'
    exact ⟨t2, st.trans a1, b1⟩
theorem vx_callf {S SX : Type} {post : UInt32 → S → Prop} {px : SX → Prop} {B : S → State → Prop} {BX : String → SX → State → Prop} {AX : Nat → Prop} (hr : vx_Run p l e R s m args below meth c H locs cells slots mc ms (F0 m pc ls st0) rest (va_Qf post B A1 a) (vx_X px BX AX) free) (hS : va_S A0 H0 H locs) (hA : ∀ q, q < H.size → A1 q → A0 q) (hf : ∀ q, free q → A0 q) (hAX : ∀ q, q < H.size → AX q → A0 q)
    (kx : ∀ (E : String) (ce : Cell) (q9 : Addr) (u : SX) (t : State) (H1 : Heap) (locs1 : List Loc), t.heap = H1 → s.vm.Alike t.vm → px u → BX E u t → H.size ≤ H1.size → (∀ q : Nat, q < H.size → ¬ AX q → H1[q]? = H[q]?) → va_S A0 H0 H1 locs1 → H1[q9]? = some ce → ce.vm = .none → s.vm.findClass E = some ce.cls → vx_W p l e R s m args below meth c H1 locs1 (cells + mc) (slots + ms) Q (F0 m pc ls rest) q9)
    (kk : ∀ (r : UInt32) (u : S) (t : State) (H1 : Heap) (locs1 : List Loc), t.heap = H1 → s.vm.Alike t.vm → post r u → B u t → H.size ≤ H1.size → (∀ q : Nat, q < H.size → ¬ A1 q → H1[q]? = H[q]?) → va_S A0 H0 H1 locs1 → W p l e R s m args below meth c H1 locs1 (cells + mc) (slots + ms) Q (F0 m (pc + 3) ls (.float r :: rest))) : W p l e R s m args below meth c H locs cells slots Q (F0 m pc ls st0) := by
  intro T hT X
  rcases hr T hT X with ⟨v, st₀, t, T', L, h0, X', hL, e1, e2, ⟨⟨r, u, hv, hp, hb⟩, hF⟩, st⟩ | ⟨q, st₀, t, T', L, E, ce, h0, X', hL, e1, e2, ⟨u, hp, hb, hF⟩, hce, hcv, hcl, st⟩
  · cases hv
    obtain ⟨k1, k2, k3⟩ := vx_keep h0 e1 hS hA hf hL hF
    obtain ⟨t2, a1, b1⟩ := kk r u t T'.heap (locs ++ L) e1.symm (by rw [← e2]; exact X'.warmed.alike) hp hb k1 k2 k3 T' rfl X'
    exact ⟨t2, st t2 a1, b1⟩
  · obtain ⟨k1, k2, k3⟩ := vx_keep h0 e1 hS hAX hf hL hF
    obtain ⟨t2, a1, b1⟩ := kx E ce q u t T'.heap (locs ++ L) e1.symm (by rw [← e2]; exact X'.warmed.alike) hp hb k1 k2 k3 (by rw [e1]; exact hce) hcv hcl T' rfl X'
    exact ⟨t2, st.trans a1, b1⟩
theorem vx_calld {S SX : Type} {post : UInt64 → S → Prop} {px : SX → Prop} {B : S → State → Prop} {BX : String → SX → State → Prop} {AX : Nat → Prop} (hr : vx_Run p l e R s m args below meth c H locs cells slots mc ms (F0 m pc ls st0) rest (va_Qd post B A1 a) (vx_X px BX AX) free) (hS : va_S A0 H0 H locs) (hA : ∀ q, q < H.size → A1 q → A0 q) (hf : ∀ q, free q → A0 q) (hAX : ∀ q, q < H.size → AX q → A0 q)
    (kx : ∀ (E : String) (ce : Cell) (q9 : Addr) (u : SX) (t : State) (H1 : Heap) (locs1 : List Loc), t.heap = H1 → s.vm.Alike t.vm → px u → BX E u t → H.size ≤ H1.size → (∀ q : Nat, q < H.size → ¬ AX q → H1[q]? = H[q]?) → va_S A0 H0 H1 locs1 → H1[q9]? = some ce → ce.vm = .none → s.vm.findClass E = some ce.cls → vx_W p l e R s m args below meth c H1 locs1 (cells + mc) (slots + ms) Q (F0 m pc ls rest) q9)
    (kk : ∀ (r : UInt64) (u : S) (t : State) (H1 : Heap) (locs1 : List Loc), t.heap = H1 → s.vm.Alike t.vm → post r u → B u t → H.size ≤ H1.size → (∀ q : Nat, q < H.size → ¬ A1 q → H1[q]? = H[q]?) → va_S A0 H0 H1 locs1 → W p l e R s m args below meth c H1 locs1 (cells + mc) (slots + ms) Q (F0 m (pc + 3) ls (.double r :: rest))) : W p l e R s m args below meth c H locs cells slots Q (F0 m pc ls st0) := by
  intro T hT X
  rcases hr T hT X with ⟨v, st₀, t, T', L, h0, X', hL, e1, e2, ⟨⟨r, u, hv, hp, hb⟩, hF⟩, st⟩ | ⟨q, st₀, t, T', L, E, ce, h0, X', hL, e1, e2, ⟨u, hp, hb, hF⟩, hce, hcv, hcl, st⟩
  · cases hv
    obtain ⟨k1, k2, k3⟩ := vx_keep h0 e1 hS hA hf hL hF
    obtain ⟨t2, a1, b1⟩ := kk r u t T'.heap (locs ++ L) e1.symm (by rw [← e2]; exact X'.warmed.alike) hp hb k1 k2 k3 T' rfl X'
    exact ⟨t2, st t2 a1, b1⟩
  · obtain ⟨k1, k2, k3⟩ := vx_keep h0 e1 hS hAX hf hL hF
    obtain ⟨t2, a1, b1⟩ := kx E ce q u t T'.heap (locs ++ L) e1.symm (by rw [← e2]; exact X'.warmed.alike) hp hb k1 k2 k3 (by rw [e1]; exact hce) hcv hcl T' rfl X'
    exact ⟨t2, st.trans a1, b1⟩
theorem vx_callv {S SX : Type} {post : S → Prop} {px : SX → Prop} {B : S → State → Prop} {BX : String → SX → State → Prop} {AX : Nat → Prop} (hr : vx_Run p l e R s m args below meth c H locs cells slots mc ms (F0 m pc ls st0) rest (va_Qv post B A1 a) (vx_X px BX AX) free) (hS : va_S A0 H0 H locs) (hA : ∀ q, q < H.size → A1 q → A0 q) (hf : ∀ q, free q → A0 q) (hAX : ∀ q, q < H.size → AX q → A0 q)
    (kx : ∀ (E : String) (ce : Cell) (q9 : Addr) (u : SX) (t : State) (H1 : Heap) (locs1 : List Loc), t.heap = H1 → s.vm.Alike t.vm → px u → BX E u t → H.size ≤ H1.size → (∀ q : Nat, q < H.size → ¬ AX q → H1[q]? = H[q]?) → va_S A0 H0 H1 locs1 → H1[q9]? = some ce → ce.vm = .none → s.vm.findClass E = some ce.cls → vx_W p l e R s m args below meth c H1 locs1 (cells + mc) (slots + ms) Q (F0 m pc ls rest) q9)
    (kk : ∀ (u : S) (t : State) (H1 : Heap) (locs1 : List Loc), t.heap = H1 → s.vm.Alike t.vm → post u → B u t → H.size ≤ H1.size → (∀ q : Nat, q < H.size → ¬ A1 q → H1[q]? = H[q]?) → va_S A0 H0 H1 locs1 → W p l e R s m args below meth c H1 locs1 (cells + mc) (slots + ms) Q (F0 m (pc + 3) ls (rest))) : W p l e R s m args below meth c H locs cells slots Q (F0 m pc ls st0) := by
  intro T hT X
  rcases hr T hT X with ⟨v, st₀, t, T', L, h0, X', hL, e1, e2, ⟨⟨u, hv, hp, hb⟩, hF⟩, st⟩ | ⟨q, st₀, t, T', L, E, ce, h0, X', hL, e1, e2, ⟨u, hp, hb, hF⟩, hce, hcv, hcl, st⟩
  · cases hv
    obtain ⟨k1, k2, k3⟩ := vx_keep h0 e1 hS hA hf hL hF
    obtain ⟨t2, a1, b1⟩ := kk u t T'.heap (locs ++ L) e1.symm (by rw [← e2]; exact X'.warmed.alike) hp hb k1 k2 k3 T' rfl X'
    exact ⟨t2, st t2 a1, b1⟩
  · obtain ⟨k1, k2, k3⟩ := vx_keep h0 e1 hS hAX hf hL hF
    obtain ⟨t2, a1, b1⟩ := kx E ce q u t T'.heap (locs ++ L) e1.symm (by rw [← e2]; exact X'.warmed.alike) hp hb k1 k2 k3 (by rw [e1]; exact hce) hcv hcl T' rfl X'
    exact ⟨t2, st.trans a1, b1⟩
/-- caught by the row x of this method's table; the rows ahead don't take it -/
theorem vx_catch {own name : String} {E : String} {ce : Cell} {q : Addr} (hown : s.vm.findClass own = some m.cls) (pre : List ExceptionTableEntry) (x : ExceptionTableEntry) (suf : List ExceptionTableEntry) (hsplit : c.exceptionTable.toList = pre ++ x :: suf)
    (hpass : ∀ z ∈ pre, covers z pc = false ∨ (z.catchType ≠ 0 ∧ ∃ nm : String, (Cond.classLink own z.catchType nm).before args s = true ∧ va_Nc E nm s)) (hx : covers x pc = true) (h0 : x.catchType ≠ 0)
    (hlink : (Cond.classLink own x.catchType name).before args s = true) (hcast : (Cond.castable E name).before args s = true) (hcell : H[q]? = some ce) (hv : ce.vm = .none) (hcl : s.vm.findClass E = some ce.cls)
    (kk : W p l e R s m args below meth c H locs cells slots Q (F0 m x.handlerPc ls [.ref q])) : vx_W p l e R s m args below meth c H locs cells slots Q (F0 m pc ls rest) q := by
  intro T hT X
  have hpl : e.platform.magicAccessors = ({} : Platform).magicAccessors := by rw [X.admits.platform]
  obtain ⟨c3, c4, hc3, hc4, hasg⟩ := Cond.castable_spec hcast
  cases Option.some.inj (hc3.symm.trans hcl)
  obtain ⟨c5, hc5, hcl5⟩ := Cond.classLink_spec hown hlink e.platform hpl
  cases Option.some.inj (hc4.symm.trans hc5)
  obtain ⟨vm', X', st⟩ := X.thenCaughtThrough q (g := F0 m pc ls rest) rfl (Steps.refl _) (by rw [hT]; exact hcell) (by rw [hv]; rfl) (by obtain ⟨k9, h9, -⟩ := Vm.findClass_spec hcl; exact ⟨k9, h9⟩) pre x suf hsplit
    (fun z hz => by
      rcases hpass z hz with h | ⟨hz0, nm, hl1, hn1⟩
      · exact Or.inl h
      · obtain ⟨c6, hc6, hcl6⟩ := Cond.classLink_spec hown hl1 e.platform hpl
        obtain ⟨a8, b8, h1, h2, h3⟩ := hn1
        cases Option.some.inj (h1.symm.trans hcl)
        cases Option.some.inj (h2.symm.trans hc6)
        exact Or.inr ⟨hz0, _, hcl6, h3⟩) hx (Or.inr ⟨h0, c4, hcl5, hasg⟩)
  obtain ⟨t, a1, b1⟩ := kk (T.setVm vm') hT X'
  exact ⟨t, st.trans a1, b1⟩
end Rows
section Ends
variable {p : Program} {l : Launch} {e : Env} {R : Room} {s : State} {m : MethodId} {args : Array Value} {below : List Frame} {meth : Method} {c : Code} {H : Heap} {locs : List Loc} {cells slots : Nat} {Q : State → Prop}
variable {mc ms : Nat} {free : Addr → Prop} {A0 A1 : Nat → Prop} {H0 : Heap} {a : Array Value} {ls : Array Slot} {st0 rest : List Value}
variable {Qc : Array Value → State → Outcome → State → Prop} {XC : String → State → State → Prop}
/-- what a body that may throw owes at its end -/
def vx_MQ (below : List Frame) (Qc : Array Value → State → Outcome → State → Prop) (XC : String → State → State → Prop) (a : Array Value) (s : State) (mc ms : Nat) (free : Addr → Prop) : State → Prop := fun t =>
  ∃ o, t.status = .running ∧ Ended t below o ∧ vx_Q Qc XC mc ms free a s o t
theorem vx_ret {g : JFrame} {mc ms : Nat} (k : W p l e R s m args below meth c H locs cells slots (MQ below Qc args s mc ms free) g) : W p l e R s m args below meth c H locs cells slots (vx_MQ below Qc XC args s mc ms free) g := by
  intro T hT X
  obtain ⟨t, a1, o, b1, b2, b3, b4⟩ := k T hT X
  exact ⟨t, a1, o, b1, b2, Or.inl ⟨b3, b4⟩⟩
/-- not caught here: it goes on to the caller -/
theorem vx_widen {g : JFrame} {q : Addr} {k n : Nat} (h1 : cells ≤ k) (h2 : slots ≤ n) (kk : vx_W p l e R s m args below meth c H locs k n Q g q) : vx_W p l e R s m args below meth c H locs cells slots Q g q := fun T hT X => kk T hT (stand_widen X h1 h2)
theorem vx_out {pc : Nat} {E : String} {ce : Cell} {q : Addr} {mc ms : Nat} (hout : ∀ x ∈ c.exceptionTable.toList, covers x pc = false) (hlocks : meth.locks = false) (hcell : H[q]? = some ce) (hv : ce.vm = .none) (hcl : s.vm.findClass E = some ce.cls)
    (hx : ∀ t : State, t.heap = H → s.vm.Alike t.vm → XC E s t) (hf : ∀ z ∈ locs, free z.base) (hc : cells ≤ mc) (hs : slots ≤ ms) :
    vx_W p l e R s m args below meth c H locs cells slots (vx_MQ below Qc XC args s mc ms free) (F0 m pc ls rest) q := by
  intro T hT X
  obtain ⟨st1, hrun, hend, hW, hsm⟩ := X.leaveThrown q (g := F0 m pc ls rest) rfl rfl rfl hout hlocks
  have hcell9 : (T.setFrames (.throwing q :: below)).heap[q]? = some ce := by
    show T.heap[q]? = some ce
    rw [hT]; exact hcell
  exact ⟨_, st1, .threw q, hrun, hend, Or.inr ⟨q, rfl, E, ce, locs, hx _ hT hW.alike, hcell9, hv, hcl, hW, hsm.mono hc hs, hf⟩⟩
theorem vx_frame {U : State} {k n : Nat} (h : s.sameButNew ({ U with vm := s.vm } : State) locs k n) : s.heap.size ≤ U.heap.size ∧ ∀ q : Nat, q < s.heap.size → (∀ z ∈ locs, z.base ≠ q) → U.heap[q]? = s.heap[q]? := by
  obtain ⟨-, h2, -, -, -, h6⟩ := h
  refine ⟨h2, fun q hq hz => ?_⟩
  obtain ⟨c9, e1, e2, e3, e4⟩ := h6 q _ (Array.getElem?_eq_getElem hq)
  have hs : c9.slots = (s.heap[q]).slots := Array.ext_getElem? fun i => e4 i fun hm => hz _ hm rfl
  have h9 : c9 = s.heap[q] := by
    rw [hs] at e2
    exact e2
  have e5 : U.heap[q]? = some c9 := e1
  rw [e5, h9, Array.getElem?_eq_getElem hq]
/-- the words of a throw but the four that speak of the heap -/
def vx_no (w : Cond) : Bool := decide (w ≠ .isRef (.static Bundle.tN "UNASSIGNED_STACK" Bundle.steD)) && decide (w ≠ .isRef (.static Bundle.tN "SUPPRESSED_SENTINEL" Bundle.listD)) && decide (w ≠ .laysStatic Bundle.tN "UNASSIGNED_STACK" Bundle.steD) && decide (w ≠ .laysStatic Bundle.tN "SUPPRESSED_SENTINEL" Bundle.listD)
def vx_at0 (own : String) (ic : Nat) (X : String) (names : List String) : List Cond := (Bundle.ownAtoms0 own ic X names).filter vx_no
def vx_atS (own : String) (ic : Nat) (X : String) (names : List String) : List Cond := (Bundle.ownAtoms own ic X names).filter vx_no
/-- a word that the tables alone decide, or a good one -/
def vx_ot (w : Cond) : Bool := w.onTables || goodWord w
theorem vx_ot_at {args a' : Array Value} {s U : State} {w : Cond} (hW : s.WarmedH U.vm) (hvm : s.vm = U.vm) (hg : vx_ot w = true) (h : w.before args s = true) : w.before a' U = true := by
  simp only [vx_ot, Bool.or_eq_true] at hg
  rcases hg with hg | hg
  · exact va_tabs hg hvm h
  · exact word_at hW (good_of_word hg) h
/-- a list's words: the good ones out of the method's own list, the others by premises of their own -/
theorem vx_hat {args : Array Value} {s : State} {L B : List Cond} (h1 : ∀ w ∈ L.filter goodWord, w.before args s = true) (h2 : ∀ w ∈ L.filter (fun w => !goodWord w), w ∈ B) (h3 : ∀ w ∈ B, w.before args s = true) : ∀ w ∈ L, w.before args s = true := by
  intro w hw
  by_cases g : goodWord w = true
  · exact h1 w (List.mem_filter.mpr ⟨hw, g⟩)
  · refine h3 w (h2 w (List.mem_filter.mpr ⟨hw, ?_⟩))
    show (!goodWord w) = true
    cases hgw : goodWord w
    · rfl
    · exact absurd hgw g
theorem vx_c {args : Array Value} {s : State} {w : Cond} {B : List Cond} (h : w.before args s = true) (t : ∀ w ∈ B, w.before args s = true) : ∀ w' ∈ w :: B, w'.before args s = true := fun w' h' => (List.mem_cons.mp h').elim (fun e => by rw [e]; exact h) (t w')
theorem vx_n {args : Array Value} {s : State} : ∀ w ∈ ([] : List Cond), w.before args s = true := fun _ h => nomatch h
theorem vx_own {args : Array Value} {s : State} {L : List Cond} (h1 : ∀ w ∈ L.filter vx_no, w.before args s = true)
    (hU : (Cond.isRef (.static Bundle.tN "UNASSIGNED_STACK" Bundle.steD)).before args s = true) (hN : (Cond.isRef (.static Bundle.tN "SUPPRESSED_SENTINEL" Bundle.listD)).before args s = true)
    (lU : (Cond.laysStatic Bundle.tN "UNASSIGNED_STACK" Bundle.steD).before args s = true) (lN : (Cond.laysStatic Bundle.tN "SUPPRESSED_SENTINEL" Bundle.listD).before args s = true) : ∀ w ∈ L, w.before args s = true := by
  intro w hw
  by_cases e1 : w = .isRef (.static Bundle.tN "UNASSIGNED_STACK" Bundle.steD)
  · rw [e1]; exact hU
  · by_cases e2 : w = .isRef (.static Bundle.tN "SUPPRESSED_SENTINEL" Bundle.listD)
    · rw [e2]; exact hN
    · by_cases e3 : w = .laysStatic Bundle.tN "UNASSIGNED_STACK" Bundle.steD
      · rw [e3]; exact lU
      · by_cases e4 : w = .laysStatic Bundle.tN "SUPPRESSED_SENTINEL" Bundle.listD
        · rw [e4]; exact lN
        · exact h1 w (List.mem_filter.mpr ⟨hw, by unfold vx_no; rw [decide_eq_true e1, decide_eq_true e2, decide_eq_true e3, decide_eq_true e4]; rfl⟩)
/-- where a static field lies, its class's statics cell in H -/
def vx_L (C n d : String) (A : Nat → Prop) (U : State) (H : Heap) : Prop := ∃ (c : ClassId) (k : Class) (i : Nat) (f : Field) (a : Nat) (cell : Cell), U.vm.findClass C = some c ∧ U.fieldFound? C n d = some (c, k, i, f) ∧ f.isStatic = true ∧ k.statics = some a ∧ H[a]? = some cell ∧ cell.vm.isStatics = true ∧ cell.cls = c ∧ f.slot < cell.slots.size ∧ k.staticTypes[f.slot]? = some f.type ∧ ¬ A a
theorem vx_L.moved {C n d : String} {A : Nat → Prop} {u U : State} {H : Heap} (hvm : u.vm.Alike U.vm) (h : vx_L C n d A u H) : vx_L C n d A U H := by
  obtain ⟨c, k, i, f, a, cell, h1, h2, h3, h4, h5, h6, h7, h8, h9, h10⟩ := h
  obtain ⟨k', hi', he⟩ := State.fieldFound?_setVm hvm h2
  exact ⟨c, k', i, f, a, cell, by rw [hvm.findClass]; exact h1, hi', h3, by rw [he]; exact h4, h5, h6, h7, h8, by rw [he]; exact h9, h10⟩
theorem vx_L.kept {C n d : String} {A : Nat → Prop} {U : State} {H H1 : Heap} (h : vx_L C n d A U H) (hq : ∀ a : Nat, a < H.size → ¬ A a → H1[a]? = H[a]?) : vx_L C n d A U H1 := by
  obtain ⟨c, k, i, f, a, cell, h1, h2, h3, h4, h5, h6, h7, h8, h9, h10⟩ := h
  exact ⟨c, k, i, f, a, cell, h1, h2, h3, h4, by rw [hq a (Array.getElem?_eq_some_iff.mp h5).1 h10]; exact h5, h6, h7, h8, h9, h10⟩
theorem vx_L.narrow {C n d : String} {A B : Nat → Prop} {U : State} {H : Heap} (h : vx_L C n d A U H) (hAB : ∀ q, B q → A q) : vx_L C n d B U H := by
  obtain ⟨c, k, i, f, a, cell, h1, h2, h3, h4, h5, h6, h7, h8, h9, h10⟩ := h
  exact ⟨c, k, i, f, a, cell, h1, h2, h3, h4, h5, h6, h7, h8, h9, fun z => h10 (hAB _ z)⟩
theorem vx_L.word {C n d : String} {A : Nat → Prop} {s : State} {args : Array Value} (h : vx_L C n d A s s.heap) : (Cond.laysStatic C n d).before args s = true := by
  obtain ⟨c, k, i, f, a, cell, h1, h2, h3, h4, h5, h6, h7, h8, h9, -⟩ := h
  show (Cond.laysStatic C n d).holds args s none s [] = true
  exact Cond.laysStatic_of h1 h2 h3 h4 h5 h6 h7 h8 h9
/-- .. and what it holds: null or some reference -/
def vx_Zq (C n d : String) (A : Nat → Prop) (U : State) (H : Heap) : Prop := va_Zq C n d A U H ∧ vx_L C n d A U H
theorem vx_Zq.moved {C n d : String} {A : Nat → Prop} {u U : State} {H : Heap} (hvm : u.vm.Alike U.vm) (h : vx_Zq C n d A u H) : vx_Zq C n d A U H := ⟨va_Zq.moved hvm h.1, vx_L.moved hvm h.2⟩
theorem vx_Zq.kept {C n d : String} {A : Nat → Prop} {U : State} {H H1 : Heap} (h : vx_Zq C n d A U H) (hq : ∀ a : Nat, a < H.size → ¬ A a → H1[a]? = H[a]?) : vx_Zq C n d A U H1 := ⟨va_Zq.kept h.1 hq, vx_L.kept h.2 hq⟩
theorem vx_Zq.narrow {C n d : String} {A B : Nat → Prop} {U : State} {H : Heap} (h : vx_Zq C n d A U H) (hAB : ∀ q, B q → A q) : vx_Zq C n d B U H := ⟨va_Zq.narrow h.1 hAB, vx_L.narrow h.2 hAB⟩
theorem vx_Zqof {args : Array Value} {s : State} {C n d : String} {A : Nat → Prop} (hl : (Cond.laysStatic C n d).before args s = true) (hini : (Cond.initialized C).before args s = true) (h : (Cond.isRef (.static C n d)).before args s = true) (hA : ∀ a : Nat, a < s.heap.size → ¬ A a) : vx_Zq C n d A s s.heap := by
  refine ⟨va_Zqof hl hini h hA, ?_⟩
  obtain ⟨c, k, i, f, a, cell, h1, h2, h3, h4, h5, h6, h7, h8, h9⟩ := Cond.laysStatic_spec hl
  exact ⟨c, k, i, f, a, cell, h1, h2, h3, h4, h5, h6, h7, h8, h9, hA a (Array.getElem?_eq_some_iff.mp h5).1⟩
theorem vx_isRef {C n d : String} {v : Value} {A : Nat → Prop} {s : State} {args : Array Value} (h : va_Z C n d v A s s.heap) (hv : v.isRef = true) : (Cond.isRef (.static C n d)).before args s = true := by
  obtain ⟨cf, kf, fi, f, a, cell, h1, h2, h3, h4, h5, h6, h7, -⟩ := h
  have he : (Term.static C n d).eval args s none [] s = some v := by
    simp [Term.eval, State.fieldNamed?, h1, h2, h4, h5, h6, h7]
  simp only [Cond.before, Cond.holds, Cond.value, he]
  cases v <;> simp_all [Value.isRef]
theorem vx_isRefq {C n d : String} {A : Nat → Prop} {s : State} {args : Array Value} (h : va_Zq C n d A s s.heap) : (Cond.isRef (.static C n d)).before args s = true := by
  rcases h with h | ⟨t, h⟩
  · exact vx_isRef h rfl
  · exact vx_isRef h rfl
/-- the same frame, seen from here: as if the method were called anew in this heap -/
theorem vx_rebase {T : State} (X : Stand p l e R s m args below meth c T locs cells slots) {R' : Room} (hf : R'.frames ≤ R.frames) (hl : R'.locals ≤ R.locals) (hc : cells + R'.cells ≤ R.cells) (hs : slots + R'.slots ≤ R.slots) :
    Stand p l e R' ((T.setVm s.vm).setFrames (.invoking m args :: below)) m args below meth c T [] 0 0 := by
  have htop : (T.setVm s.vm).topJava?.isSome := X.here.top
  have hF : ((T.setVm s.vm).setFrames (.invoking m args :: below)).frames = .invoking m args :: below := State.frames_setFrames _ (State.cur_lt_of_top htop)
  obtain ⟨g₀, hg0⟩ := Option.isSome_iff_exists.mp htop
  obtain ⟨r, hr⟩ := State.topJava?_eq_some.mp hg0
  have hl9 : e.platform.stackLimits (T.setVm s.vm).me = e.platform.stackLimits s.me := X.limits
  have hb9 : (T.setVm s.vm).me.stackBytes = s.me.stackBytes := X.bytes
  refine ⟨X.admits, X.cas, X.clock, hF, ?_, X.hears, X.method, X.code, X.here, X.tail, X.warmed, ?_, ?_, ?_⟩
  · have h := X.room
    have hU : ((T.setVm s.vm).setFrames (.invoking m args :: below)).localsInUse = s.localsInUse := by
      rw [State.localsInUse_invoking hF (meth := meth) (c := c) X.method X.code, State.localsInUse_invoking X.frames X.method X.code]
    simp only [State.hasRoom, Bool.and_eq_true, decide_eq_true_eq] at h ⊢
    obtain ⟨⟨⟨⟨h1, h2, h3, h4, h5, h6⟩, h7⟩, h8⟩, h9⟩ := h
    rw [X.frames, List.length_cons] at h2 h3
    have q1 := X.heapSize
    have q2 := X.used
    simp only [hF, hU, List.length_cons, State.stackLimits_setFrames, State.stackBytes_setFrames, hl9, hb9]
    refine ⟨⟨⟨⟨by omega, by omega, by omega, by omega, by omega, h6⟩, ?_⟩, ?_⟩, X.book⟩
    · show T.heap.size + R'.cells ≤ e.platform.maxCells
      omega
    · show T.slotsUsed + R'.slots ≤ e.platform.maxSlots
      omega
  · rw [State.stackLimits_setFrames]; rfl
  · rw [State.stackBytes_setFrames]; rfl
  · refine ⟨?_, Nat.le_refl _, Nat.le_refl _, ?_, ?_, fun a c9 h9 => ⟨c9, h9, rfl, rfl, fun _ _ => rfl⟩⟩
    · obtain ⟨t, ht, -⟩ := State.frames_cons hr
      show T.setVm s.vm = { ((T.setVm s.vm).setFrames (.invoking m args :: below)).setFrames (T.setVm s.vm).frames with heap := T.heap, slotsUsed := T.slotsUsed }
      rw [State.setFrames_setFrames, State.setFrames_self ht]
      rfl
    · show T.slotsUsed = T.slotsUsed + ((T.heap.toList.drop T.heap.size).map (·.slots.size)).sum
      rw [List.drop_eq_nil_of_le (Nat.le_of_eq Array.length_toList)]
      rfl
    · show ((T.heap.toList.drop T.heap.size).map (·.slots.size)).sum ≤ 0
      rw [List.drop_eq_nil_of_le (Nat.le_of_eq Array.length_toList)]
      exact Nat.le_refl _
/-- 'throw new E()': new; dup; invokespecial; athrow -/
theorem vx_throw0 {cc : ByteArray} {pc : Nat} (hexec : p.tables.exec = Jvm.exec) (hb : c.code = cc) (hl : l.stackTraces = false) {own cls : String} {names : List String} {ik ic mc ms : Nat} {A : Nat → Prop}
    (hown : s.vm.findClass own = some m.cls) (hcls : Bundle.fit cls = true) (hnames : ∀ n ∈ names, Bundle.fit n = true)
    (hk : (Cond.classLink own ik cls).before args s = true) (hini : (Cond.initialized cls).before args s = true) (hat : ∀ w ∈ vx_at0 own ic cls names, w.before args s = true)
    (hgood : ∀ w ∈ Cond.classLink own ik cls :: Cond.initialized cls :: vx_at0 own ic cls names, vx_ot w = true)
    (hU : vx_Zq Bundle.tN "UNASSIGNED_STACK" Bundle.steD A s s.heap) (hN : vx_Zq Bundle.tN "SUPPRESSED_SENTINEL" Bundle.listD A s s.heap) (hS : va_S A s.heap H locs) (hsize : ls.size = c.maxLocals)
    (d0 : decode cc pc = .ok (.new ik, 3)) (d3 : decode cc (pc + 3) = .ok (.dup, 1)) (d4 : decode cc (pc + 4) = .ok (.invokespecial ic, 3)) (d7 : decode cc (pc + 7) = .ok (.athrow, 1))
    (hout : ∀ x ∈ c.exceptionTable.toList, covers x (pc + 7) = false)
    (hRframes : names.length + 3 < R.frames) (hRlocals : (rest.map fun v => v.category).sum + (13 * (names.length + 1) + 42) ≤ R.locals) (hRcells : cells + 1 ≤ R.cells) (hRslots : slots + 6 ≤ R.slots) (hlocks : meth.locks = false)
    (hx : ∀ t : State, s.vm.Alike t.vm → H.size ≤ t.heap.size → (∀ q : Nat, q < H.size → t.heap[q]? = H[q]?) → XC cls s t)
    (hf : ∀ z ∈ locs, free z.base) (hc : cells + 1 ≤ mc) (hs : slots + 6 ≤ ms) :
    W p l e R s m args below meth c H locs cells slots (vx_MQ below Qc XC args s mc ms free) (F0 m pc ls rest) := by
  intro T hT X
  have htr : e.platform.stackTraces = false := (show e.platform.stackTraces = l.stackTraces by rw [X.admits.platform]).trans hl
  have Y := vx_rebase X (R' := { frames := R.frames, locals := R.locals, cells := 1, slots := 6 }) (Nat.le_refl _) (Nat.le_refl _) hRcells hRslots
  obtain ⟨s', hA⟩ : ∃ z, z = (T.setVm s.vm).setFrames (.invoking m args :: below) := ⟨_, rfl⟩
  rw [← hA] at Y
  have hvm : s'.vm = s.vm := by rw [hA]; rfl
  have hhp : s'.heap = H := by rw [hA]; exact hT
  have hW0 : s.WarmedH s'.vm := by rw [hvm]; exact State.WarmedH.refl s
  have hat' : ∀ w ∈ vx_at0 own ic cls names, w.before args s' = true := fun w hw => vx_ot_at hW0 hvm.symm (hgood w (List.mem_cons_of_mem _ (List.mem_cons_of_mem _ hw))) (hat w hw)
  have hk' : (Cond.classLink own ik cls).before args s' = true := vx_ot_at hW0 hvm.symm (hgood _ List.mem_cons_self) hk
  have hini' : (Cond.initialized cls).before args s' = true := vx_ot_at hW0 hvm.symm (hgood _ (List.mem_cons_of_mem _ List.mem_cons_self)) hini
  have hU' : vx_Zq Bundle.tN "UNASSIGNED_STACK" Bundle.steD A s' s'.heap := by rw [hhp]; exact vx_Zq.moved hW0.alike (hU.kept hS.2.1)
  have hN' : vx_Zq Bundle.tN "SUPPRESSED_SENTINEL" Bundle.listD A s' s'.heap := by rw [hhp]; exact vx_Zq.moved hW0.alike (hN.kept hS.2.1)
  have h : ∀ w ∈ Bundle.ownAtoms0 own ic cls names, w.before args s' = true := vx_own hat' (vx_isRefq hU'.1) (vx_isRefq hN'.1) hU'.2.word hN'.2.word
  have hown' : s'.vm.findClass own = some m.cls := by rw [hvm]; exact hown
  have hins : (Cond.instantiable cls 6).before args s' = true := h _ (by simp [Bundle.ownAtoms0])
  obtain ⟨vm₁, cX, kX, hfX, hkX, -, -, X₁, st1⟩ := Y.newCold hexec (own := own) (C := cls) (index := ik) (n := 6) hown' hk' hins hini'
    (g := F0 m pc ls rest) rfl (by rw [hb]; exact d0) (Nat.le_refl _) (Nat.le_refl _)
  generalize hT1 : (T.setVm vm₁).pushCell { cls := cX, slots := kX.instanceTypes.map defaultValue, vm := .none } = T1 at X₁ st1
  have hcat : (Value.ref T.heap.size).category = 1 := rfl
  have hcellA : T1.heap[T.heap.size]? = some (freshCell cX kX) := by rw [← hT1]; exact State.heap_pushCell_size _ _
  have d3' : decode c.code (pc + 3) = .ok (.dup, 1) := by rw [hb]; exact d3
  obtain ⟨U, hsteps, hrun, hend, hW, hsame, ce, hce, hO⟩ := X₁.ctorThrow0 hexec htr (own := own) (cls := cls) (names := names) (ic := ic) hown' hcls hnames h (fun x hx => nomatch hx) hfX hkX hcellA (by rw [hhp, hT]; exact Nat.le_refl _)
    (g := { method := m, pc := pc + 4, locals := ls, stack := .ref T.heap.size :: .ref T.heap.size :: rest, locked := none }) rfl hsize rfl rfl (rest := rest) rfl
    (by rw [hb]; exact d4) (by rw [hb]; exact d7) hout hRframes (by simp only [List.map_cons, List.sum_cons, hcat]; omega) hlocks
  obtain ⟨f1, f2⟩ := vx_frame hsame
  rw [hhp] at f1 f2
  have hWs : s.WarmedH U.vm := State.WarmedH.trans hW0 hW
  have hcl : s.vm.findClass cls = some ce.cls := by
    have h9 := hO.cls
    rw [hvm] at h9
    exact h9
  have hall : s.sameButNew ({ U with vm := s.vm } : State) locs mc ms := by
    subst hA
    obtain ⟨e1, e2⟩ := hsame
    rw [State.setFrames_setFrames] at e1
    have h2 : (T.setVm s.vm).sameButNew ({ U with vm := s.vm } : State) [] (0 + 1) (0 + 6) := ⟨e1, e2⟩
    have h3 := X.same.trans h2
    rw [List.append_nil] at h3
    exact h3.mono hc hs
  refine ⟨U, ?_, .threw T.heap.size, hrun, hend, Or.inr ⟨T.heap.size, rfl, cls, ce, locs, hx U hWs.alike f1 (fun q hq => f2 q hq (fun z hz => nomatch hz)), hce, hO.vm, hcl, hWs, hall, hf⟩⟩
  refine st1 _ ?_
  show Steps p.tables e below (T1.setTop { method := m, pc := pc + 3, locals := ls, stack := .ref T.heap.size :: rest, locked := none }) _
  jvm_step X₁.here [X₁.here.top, hexec, d3', Value.category]
  exact hsteps
/-- 'throw new E("text")': new; dup; ldc; invokespecial; athrow -/
theorem vx_throwS {cc : ByteArray} {pc : Nat} (hexec : p.tables.exec = Jvm.exec) (hb : c.code = cc) (hl : l.stackTraces = false) {own cls text : String} {names : List String} {ik is ic mc ms sa : Nat} {A : Nat → Prop}
    (hown : s.vm.findClass own = some m.cls) (hcls : Bundle.fit cls = true) (hnames : ∀ n ∈ names, Bundle.fit n = true)
    (hk : (Cond.classLink own ik cls).before args s = true) (hini : (Cond.initialized cls).before args s = true) (hstr : vk_R own is text sa s) (hat : ∀ w ∈ vx_atS own ic cls names, w.before args s = true)
    (hgood : ∀ w ∈ Cond.classLink own ik cls :: Cond.initialized cls :: vx_atS own ic cls names, vx_ot w = true)
    (hU : vx_Zq Bundle.tN "UNASSIGNED_STACK" Bundle.steD A s s.heap) (hN : vx_Zq Bundle.tN "SUPPRESSED_SENTINEL" Bundle.listD A s s.heap) (hS : va_S A s.heap H locs) (hsize : ls.size = c.maxLocals)
    (d0 : decode cc pc = .ok (.new ik, 3)) (d3 : decode cc (pc + 3) = .ok (.dup, 1)) (d4 : decode cc (pc + 4) = .ok (.ldc is, 2)) (d6 : decode cc (pc + 6) = .ok (.invokespecial ic, 3)) (d9 : decode cc (pc + 9) = .ok (.athrow, 1))
    (hout : ∀ x ∈ c.exceptionTable.toList, covers x (pc + 9) = false)
    (hRframes : names.length + 3 < R.frames) (hRlocals : (rest.map fun v => v.category).sum + (13 * (names.length + 1) + 43) ≤ R.locals) (hRcells : cells + 1 ≤ R.cells) (hRslots : slots + 6 ≤ R.slots) (hlocks : meth.locks = false)
    (hx : ∀ t : State, s.vm.Alike t.vm → H.size ≤ t.heap.size → (∀ q : Nat, q < H.size → t.heap[q]? = H[q]?) → XC cls s t)
    (hf : ∀ z ∈ locs, free z.base) (hc : cells + 1 ≤ mc) (hs : slots + 6 ≤ ms) :
    W p l e R s m args below meth c H locs cells slots (vx_MQ below Qc XC args s mc ms free) (F0 m pc ls rest) := by
  intro T hT X
  have htr : e.platform.stackTraces = false := (show e.platform.stackTraces = l.stackTraces by rw [X.admits.platform]).trans hl
  have Y := vx_rebase X (R' := { frames := R.frames, locals := R.locals, cells := 1, slots := 6 }) (Nat.le_refl _) (Nat.le_refl _) hRcells hRslots
  obtain ⟨s', hA⟩ : ∃ z, z = (T.setVm s.vm).setFrames (.invoking m args :: below) := ⟨_, rfl⟩
  rw [← hA] at Y
  have hvm : s'.vm = s.vm := by rw [hA]; rfl
  have hhp : s'.heap = H := by rw [hA]; exact hT
  have hW0 : s.WarmedH s'.vm := by rw [hvm]; exact State.WarmedH.refl s
  have hat' : ∀ w ∈ vx_atS own ic cls names, w.before args s' = true := fun w hw => vx_ot_at hW0 hvm.symm (hgood w (List.mem_cons_of_mem _ (List.mem_cons_of_mem _ hw))) (hat w hw)
  have hk' : (Cond.classLink own ik cls).before args s' = true := vx_ot_at hW0 hvm.symm (hgood _ List.mem_cons_self) hk
  have hini' : (Cond.initialized cls).before args s' = true := vx_ot_at hW0 hvm.symm (hgood _ (List.mem_cons_of_mem _ List.mem_cons_self)) hini
  have hU' : vx_Zq Bundle.tN "UNASSIGNED_STACK" Bundle.steD A s' s'.heap := by rw [hhp]; exact vx_Zq.moved hW0.alike (hU.kept hS.2.1)
  have hN' : vx_Zq Bundle.tN "SUPPRESSED_SENTINEL" Bundle.listD A s' s'.heap := by rw [hhp]; exact vx_Zq.moved hW0.alike (hN.kept hS.2.1)
  have h : ∀ w ∈ Bundle.ownAtoms own ic cls names, w.before args s' = true := vx_own hat' (vx_isRefq hU'.1) (vx_isRefq hN'.1) hU'.2.word hN'.2.word
  have hown' : s'.vm.findClass own = some m.cls := by rw [hvm]; exact hown
  have hins : (Cond.instantiable cls 6).before args s' = true := h _ (by simp [Bundle.ownAtoms])
  obtain ⟨vm₁, cX, kX, hfX, hkX, -, -, X₁, st1⟩ := Y.newCold hexec (own := own) (C := cls) (index := ik) (n := 6) hown' hk' hins hini'
    (g := F0 m pc ls rest) rfl (by rw [hb]; exact d0) (Nat.le_refl _) (Nat.le_refl _)
  generalize hT1 : (T.setVm vm₁).pushCell { cls := cX, slots := kX.instanceTypes.map defaultValue, vm := .none } = T1 at X₁ st1
  have hcat : (Value.ref T.heap.size).category = 1 := rfl
  have hcellA : T1.heap[T.heap.size]? = some (freshCell cX kX) := by rw [← hT1]; exact State.heap_pushCell_size _ _
  have d3' : decode c.code (pc + 3) = .ok (.dup, 1) := by rw [hb]; exact d3
  have d4' : decode c.code (pc + 4) = .ok (.ldc is, 2) := by rw [hb]; exact d4
  have hstr' : vk_R own is text sa s' := vk_R.warm hW0 hstr
  obtain ⟨U, hsteps, hrun, hend, hW, hsame, ce, hce, hO⟩ := X₁.ctorThrowS hexec htr (own := own) (cls := cls) (names := names) (ic := ic) hown' hcls hnames h (fun x hx => nomatch hx) hfX hkX hcellA (by rw [hhp, hT]; exact Nat.le_refl _) (msg := .ref sa) rfl
    (g := { method := m, pc := pc + 6, locals := ls, stack := .ref sa :: .ref T.heap.size :: .ref T.heap.size :: rest, locked := none }) rfl hsize rfl rfl (rest := rest) rfl
    (by rw [hb]; exact d6) (by rw [hb]; exact d9) hout hRframes (by simp only [List.map_cons, List.sum_cons, hcat]; omega) hlocks
  obtain ⟨f1, f2⟩ := vx_frame hsame
  rw [hhp] at f1 f2
  have hWs : s.WarmedH U.vm := State.WarmedH.trans hW0 hW
  have hcl : s.vm.findClass cls = some ce.cls := by
    have h9 := hO.cls
    rw [hvm] at h9
    exact h9
  have hall : s.sameButNew ({ U with vm := s.vm } : State) locs mc ms := by
    subst hA
    obtain ⟨e1, e2⟩ := hsame
    rw [State.setFrames_setFrames] at e1
    have h2 : (T.setVm s.vm).sameButNew ({ U with vm := s.vm } : State) [] (0 + 1) (0 + 6) := ⟨e1, e2⟩
    have h3 := X.same.trans h2
    rw [List.append_nil] at h3
    exact h3.mono hc hs
  refine ⟨U, ?_, .threw T.heap.size, hrun, hend, Or.inr ⟨T.heap.size, rfl, cls, ce, locs, hx U hWs.alike f1 (fun q hq => f2 q hq (fun z hz => nomatch hz)), hce, hO.vm, hcl, hWs, hall, hf⟩⟩
  refine st1 _ ?_
  show Steps p.tables e below (T1.setTop { method := m, pc := pc + 3, locals := ls, stack := .ref T.heap.size :: rest, locked := none }) _
  jvm_step X₁.here [X₁.here.top, hexec, d3', Value.category]
  exact X₁.ldcString hexec (own := own) (text := text) (index := is) (a := sa) hown' hstr'.1 hstr'.2
    (g := { method := m, pc := pc + 4, locals := ls, stack := .ref T.heap.size :: .ref T.heap.size :: rest, locked := none }) rfl d4' _ hsteps
/-- 'throw new E("text")', the text by a wide index -/
theorem vx_throwSW {cc : ByteArray} {pc : Nat} (hexec : p.tables.exec = Jvm.exec) (hb : c.code = cc) (hl : l.stackTraces = false) {own cls text : String} {names : List String} {ik is ic mc ms sa : Nat} {A : Nat → Prop}
    (hown : s.vm.findClass own = some m.cls) (hcls : Bundle.fit cls = true) (hnames : ∀ n ∈ names, Bundle.fit n = true)
    (hk : (Cond.classLink own ik cls).before args s = true) (hini : (Cond.initialized cls).before args s = true) (hstr : vk_R own is text sa s) (hat : ∀ w ∈ vx_atS own ic cls names, w.before args s = true)
    (hgood : ∀ w ∈ Cond.classLink own ik cls :: Cond.initialized cls :: vx_atS own ic cls names, vx_ot w = true)
    (hU : vx_Zq Bundle.tN "UNASSIGNED_STACK" Bundle.steD A s s.heap) (hN : vx_Zq Bundle.tN "SUPPRESSED_SENTINEL" Bundle.listD A s s.heap) (hS : va_S A s.heap H locs) (hsize : ls.size = c.maxLocals)
    (d0 : decode cc pc = .ok (.new ik, 3)) (d3 : decode cc (pc + 3) = .ok (.dup, 1)) (d4 : decode cc (pc + 4) = .ok (.ldc_w is, 3)) (d7 : decode cc (pc + 7) = .ok (.invokespecial ic, 3)) (d10 : decode cc (pc + 10) = .ok (.athrow, 1))
    (hout : ∀ x ∈ c.exceptionTable.toList, covers x (pc + 10) = false)
    (hRframes : names.length + 3 < R.frames) (hRlocals : (rest.map fun v => v.category).sum + (13 * (names.length + 1) + 43) ≤ R.locals) (hRcells : cells + 1 ≤ R.cells) (hRslots : slots + 6 ≤ R.slots) (hlocks : meth.locks = false)
    (hx : ∀ t : State, s.vm.Alike t.vm → H.size ≤ t.heap.size → (∀ q : Nat, q < H.size → t.heap[q]? = H[q]?) → XC cls s t)
    (hf : ∀ z ∈ locs, free z.base) (hc : cells + 1 ≤ mc) (hs : slots + 6 ≤ ms) :
    W p l e R s m args below meth c H locs cells slots (vx_MQ below Qc XC args s mc ms free) (F0 m pc ls rest) := by
  intro T hT X
  have htr : e.platform.stackTraces = false := (show e.platform.stackTraces = l.stackTraces by rw [X.admits.platform]).trans hl
  have Y := vx_rebase X (R' := { frames := R.frames, locals := R.locals, cells := 1, slots := 6 }) (Nat.le_refl _) (Nat.le_refl _) hRcells hRslots
  obtain ⟨s', hA⟩ : ∃ z, z = (T.setVm s.vm).setFrames (.invoking m args :: below) := ⟨_, rfl⟩
  rw [← hA] at Y
  have hvm : s'.vm = s.vm := by rw [hA]; rfl
  have hhp : s'.heap = H := by rw [hA]; exact hT
  have hW0 : s.WarmedH s'.vm := by rw [hvm]; exact State.WarmedH.refl s
  have hat' : ∀ w ∈ vx_atS own ic cls names, w.before args s' = true := fun w hw => vx_ot_at hW0 hvm.symm (hgood w (List.mem_cons_of_mem _ (List.mem_cons_of_mem _ hw))) (hat w hw)
  have hk' : (Cond.classLink own ik cls).before args s' = true := vx_ot_at hW0 hvm.symm (hgood _ List.mem_cons_self) hk
  have hini' : (Cond.initialized cls).before args s' = true := vx_ot_at hW0 hvm.symm (hgood _ (List.mem_cons_of_mem _ List.mem_cons_self)) hini
  have hU' : vx_Zq Bundle.tN "UNASSIGNED_STACK" Bundle.steD A s' s'.heap := by rw [hhp]; exact vx_Zq.moved hW0.alike (hU.kept hS.2.1)
  have hN' : vx_Zq Bundle.tN "SUPPRESSED_SENTINEL" Bundle.listD A s' s'.heap := by rw [hhp]; exact vx_Zq.moved hW0.alike (hN.kept hS.2.1)
  have h : ∀ w ∈ Bundle.ownAtoms own ic cls names, w.before args s' = true := vx_own hat' (vx_isRefq hU'.1) (vx_isRefq hN'.1) hU'.2.word hN'.2.word
  have hown' : s'.vm.findClass own = some m.cls := by rw [hvm]; exact hown
  have hins : (Cond.instantiable cls 6).before args s' = true := h _ (by simp [Bundle.ownAtoms])
  obtain ⟨vm₁, cX, kX, hfX, hkX, -, -, X₁, st1⟩ := Y.newCold hexec (own := own) (C := cls) (index := ik) (n := 6) hown' hk' hins hini'
    (g := F0 m pc ls rest) rfl (by rw [hb]; exact d0) (Nat.le_refl _) (Nat.le_refl _)
  generalize hT1 : (T.setVm vm₁).pushCell { cls := cX, slots := kX.instanceTypes.map defaultValue, vm := .none } = T1 at X₁ st1
  have hcat : (Value.ref T.heap.size).category = 1 := rfl
  have hcellA : T1.heap[T.heap.size]? = some (freshCell cX kX) := by rw [← hT1]; exact State.heap_pushCell_size _ _
  have d3' : decode c.code (pc + 3) = .ok (.dup, 1) := by rw [hb]; exact d3
  have d4' : decode c.code (pc + 4) = .ok (.ldc_w is, 3) := by rw [hb]; exact d4
  have hstr' : vk_R own is text sa s' := vk_R.warm hW0 hstr
  obtain ⟨U, hsteps, hrun, hend, hW, hsame, ce, hce, hO⟩ := X₁.ctorThrowS hexec htr (own := own) (cls := cls) (names := names) (ic := ic) hown' hcls hnames h (fun x hx => nomatch hx) hfX hkX hcellA (by rw [hhp, hT]; exact Nat.le_refl _) (msg := .ref sa) rfl
    (g := { method := m, pc := pc + 7, locals := ls, stack := .ref sa :: .ref T.heap.size :: .ref T.heap.size :: rest, locked := none }) rfl hsize rfl rfl (rest := rest) rfl
    (by rw [hb]; exact d7) (by rw [hb]; exact d10) hout hRframes (by simp only [List.map_cons, List.sum_cons, hcat]; omega) hlocks
  obtain ⟨f1, f2⟩ := vx_frame hsame
  rw [hhp] at f1 f2
  have hWs : s.WarmedH U.vm := State.WarmedH.trans hW0 hW
  have hcl : s.vm.findClass cls = some ce.cls := by
    have h9 := hO.cls
    rw [hvm] at h9
    exact h9
  have hall : s.sameButNew ({ U with vm := s.vm } : State) locs mc ms := by
    subst hA
    obtain ⟨e1, e2⟩ := hsame
    rw [State.setFrames_setFrames] at e1
    have h2 : (T.setVm s.vm).sameButNew ({ U with vm := s.vm } : State) [] (0 + 1) (0 + 6) := ⟨e1, e2⟩
    have h3 := X.same.trans h2
    rw [List.append_nil] at h3
    exact h3.mono hc hs
  refine ⟨U, ?_, .threw T.heap.size, hrun, hend, Or.inr ⟨T.heap.size, rfl, cls, ce, locs, hx U hWs.alike f1 (fun q hq => f2 q hq (fun z hz => nomatch hz)), hce, hO.vm, hcl, hWs, hall, hf⟩⟩
  refine st1 _ ?_
  show Steps p.tables e below (T1.setTop { method := m, pc := pc + 3, locals := ls, stack := .ref T.heap.size :: rest, locked := none }) _
  jvm_step X₁.here [X₁.here.top, hexec, d3', Value.category]
  exact X₁.ldcStringW hexec (own := own) (text := text) (index := is) (a := sa) hown' hstr'.1 hstr'.2
    (g := { method := m, pc := pc + 4, locals := ls, stack := .ref T.heap.size :: .ref T.heap.size :: rest, locked := none }) rfl d4' _ hsteps
end Ends
section Bodies
variable {l : Launch}
theorem vx_ofW {y : MethodName} {ws ws' : List Cond} {rm : Room} {Pc : Array Value → State → Prop} {Qc : Array Value → State → Outcome → State → Prop} {XC : String → State → State → Prop} {mc ms : Nat} {free : Addr → Prop} {cc : ByteArray} {maxL : Nat} {ret : Option FieldType}
    (hy : plainName y.cls = true) (hw : ws = Cond.code y cc maxL ret :: ws')
    (body : ∀ p e s m args below meth c s₁, BodyLoose p l y (headSpec ws rm) cc maxL ret e s m args below meth c s₁ → c.maxLocals = maxL → (∀ x ∈ c.exceptionTable.toList, False) → Pc args s →
      W p l e (headSpec ws rm).room s m args below meth c s.heap [] 0 0 (vx_MQ below Qc XC args s mc ms free) (entryFrame m args maxL)) : vx_Met l y ws rm Pc Qc XC mc ms free := by
  refine MetFree.of_bodyS (code := cc) (maxLocals := maxL) (ret := ret) hy ?_ ?_
  · intro args s m h hn
    obtain ⟨meth, c, h1, h2, h3, h4, h5, h6, -, -⟩ := Cond.code_spec hn (atoms_spec (ws := ws) h _ (by rw [hw]; exact List.mem_cons_self))
    exact ⟨meth, c, h1, h2, h3, h4, h5, h6⟩
  · intro p e s m args below meth c s₁ B hml hP _
    have hh0 : s₁.heap = s.heap := by rw [B.state]; rfl
    have ht : ∀ x ∈ c.exceptionTable.toList, False := by
      obtain ⟨meth9, c9, h1, h2, -, -, -, -, h7, -⟩ := Cond.code_spec B.named (atoms_spec (ws := ws) B.pre _ (by rw [hw]; exact List.mem_cons_self))
      cases Option.some.inj (h1.symm.trans B.method)
      cases Option.some.inj (h2.symm.trans (Stand.of_body B).code)
      intro x hx
      rw [Array.isEmpty_iff.mp h7] at hx
      cases hx
    obtain ⟨t, a1, o, b1, b2, b3⟩ := body p e s m args below meth c s₁ B hml ht hP s₁ hh0 (Stand.of_body B)
    exact ⟨t, o, a1, b1, b2, b3⟩
/-- the table of a body with handlers -/
theorem vx_table {p : Program} {x y : MethodName} {S : Spec} {cc bytes : ByteArray} {maxL maxL' : Nat} {ret ret' : Option FieldType} {e : Env} {s s₁ : State} {m : MethodId} {args : Array Value} {below : List Frame} {meth : Method} {c : Code} {hh : List (Nat × Nat × Nat × Nat)}
    (B : BodyLoose p l y S cc maxL ret e s m args below meth c s₁) (h : (Cond.codeWith y bytes maxL' ret' hh).before args s = true) : c.exceptionTable.toList = tableOf hh := by
  obtain ⟨m9, meth9, c9, hn9, h1, h2, -, -, h6, -⟩ := Cond.codeWith_spec h
  cases Option.some.inj (hn9.symm.trans B.named)
  cases Option.some.inj (h1.symm.trans B.method)
  cases Option.some.inj (h2.symm.trans (Stand.of_body B).code)
  rw [← h6, table_eq]
end Bodies
end VXA
/-! ===== END ===== -/
/-! ===== BEGIN a static call of a method with an exception table ===== -/
section VXS
variable {p : Program} {l : Launch} {e : Env} {R : Room} {s : State} {m : MethodId} {args : Array Value} {below : List Frame} {meth : Method} {c : Code} {T : State} {H : Heap} {locs : List Loc} {cells slots : Nat}
abbrev vx_CSW (R : Room) (s : State) (args : Array Value) (own : String) (index : Nat) (y : MethodName) (bytes : ByteArray) (maxL : Nat) (ret : Option FieldType) (hh : List (Nat × Nat × Nat × Nat)) (ws : List Cond) (rm : Room) (mc ms n : Nat) : Prop :=
  (rm.cells = mc ∧ rm.slots = ms ∧ rm.frames + 1 ≤ R.frames ∧ 8 + (maxL + 11) + rm.locals ≤ R.locals ∧ (∀ w ∈ ws, ∀ (a' : Array Value) (U : State), s.WarmedH U.vm → w.before a' U = true) ∧ Cond.codeWith y bytes maxL ret hh ∈ ws) ∧
  (Cond.codeWith y bytes maxL ret hh).before args s = true ∧ (Cond.initialized y.cls).before args s = true ∧ (y.cls ≠ "java/lang/invoke/MethodHandle" ∧ y.cls ≠ "java/lang/invoke/VarHandle") ∧
  (∀ sig, parseMethodDescriptor y.desc = some sig → n = sig.parameters.length) ∧ (Cond.methodLink own index y).before args s = true ∧ (Cond.static y).before args s = true
theorem vx_cwSW {own : String} {index maxL mc ms : Nat} {y : MethodName} {bytes : ByteArray} {ret : Option FieldType} {hh : List (Nat × Nat × Nat × Nat)} {Ts ws ws' : List Cond} {rm : Room} (n : Nat) (ht : ∀ w ∈ Ts, w.before args s = true) (hT : GoodIn Ts (va_wsS own index y ws)) (hw : ws = Cond.codeWith y bytes maxL ret hh :: ws') (hrc : rm.cells = mc) (hrs : rm.slots = ms)
    (hd : y.cls ≠ "java/lang/invoke/MethodHandle" ∧ y.cls ≠ "java/lang/invoke/VarHandle" ∧ (parseMethodDescriptor y.desc).map (fun d => d.parameters.length) = some n) (hR : rm.frames + 1 ≤ R.frames ∧ 8 + (maxL + 11) + rm.locals ≤ R.locals) :
    vx_CSW R s args own index y bytes maxL ret hh ws rm mc ms n := by
  have ok : ∀ w ∈ va_wsS own index y ws, w.before args s = true := fun w h => ht w (hT w h).1
  have hG : GoodIn Ts ws := fun w h => hT w (by unfold va_wsS; exact List.mem_append_right _ h)
  have hc : Cond.codeWith y bytes maxL ret hh ∈ ws := by rw [hw]; exact List.mem_cons_self
  refine ⟨⟨hrc, hrs, hR.1, hR.2, pay_in ht hG, hc⟩, ht _ (hG _ hc).1, ok _ (by simp [va_wsS]), ⟨hd.1, hd.2.1⟩, fun sig h => ?_, ok _ (by simp [va_wsS]), ok _ (by simp [va_wsS])⟩
  have h2 := hd.2.2
  rw [h] at h2
  exact (Option.some.inj h2).symm
theorem vx_callSW (X : Stand p l e R s m args below meth c T locs cells slots) (hexec : p.tables.exec = Jvm.exec) {own : String} {index : Nat} {y : MethodName} {bytes : ByteArray} {maxL : Nat} {ret : Option FieldType} {hh : List (Nat × Nat × Nat × Nat)}
    (hown : s.vm.findClass own = some m.cls) (hlink : (Cond.methodLink own index y).before args s = true) (hstat : (Cond.static y).before args s = true) (hinit : (Cond.initialized y.cls).before args s = true)
    (hcode : (Cond.codeWith y bytes maxL ret hh).before args s = true) (hy : y.cls ≠ "java/lang/invoke/MethodHandle" ∧ y.cls ≠ "java/lang/invoke/VarHandle")
    {W9 : Nat} {Pre : Pt → Array Value → Prop} {Post : Pt → Array Value → Option Value → Pt → Prop} (hK : Back l R p e below s args y 3 W9 Pre Post)
    {g : JFrame} (hg : g.method = m) (hsize : g.locals.size = c.maxLocals) {argsL rest : List Value} (hlen : ∀ sig, parseMethodDescriptor y.desc = some sig → argsL.length = sig.parameters.length)
    (hstack : g.stack = argsL.reverse ++ rest) (hW : 2 * g.monitorRoom + (rest.map fun v => v.category).sum ≤ W9) (hdg : decode c.code g.pc = .ok (.invokestatic index, 3))
    (hpre : ∀ vm₁, s.WarmedH vm₁ → Pre ⟨T.setVm vm₁, locs, cells, slots⟩ argsL.toArray) :
    ∃ (v : Option Value) (vm₁ : Vm) (B : Pt), s.WarmedH vm₁ ∧ Stand p l e R s m args below meth c B.U B.locs B.cells B.slots ∧ Post ⟨T.setVm vm₁, locs, cells, slots⟩ argsL.toArray v B ∧
      ∀ target, Steps p.tables e below (B.U.setTop { g with pc := g.pc + 3, stack := v.toList ++ rest }) target → Steps p.tables e below (T.setTop g) target := by
  obtain ⟨mk, methM, cM, hnamed, hmethM, -, -, -, -, -, -, hsigM⟩ := Cond.codeWith_spec hcode
  have hstatic : methM.isStatic = true := Cond.static_spec hnamed hmethM hstat
  obtain ⟨kP, hkP, -⟩ := className_of_methodNamed hnamed
  have hinitP : kP.init = .initialized := Cond.initialized_spec (findClass_of_methodNamed hnamed) hkP hinit
  obtain ⟨vm₁, X₁, hstep₁⟩ := X.invokestatic hexec hown hlink hnamed hmethM hstatic hkP hinitP hy (g := g) hg (argsL := argsL) (rest := rest) (hlen _ hsigM) hstack hdg
  obtain ⟨v, B, X', hpost, hsteps⟩ := hK m meth c ⟨T.setVm vm₁, locs, cells, slots⟩ { g with stack := rest } (.invokestatic index) mk argsL.toArray X₁ hg hsize hdg hW (X₁.named hnamed) (hpre vm₁ X₁.warmed)
  exact ⟨v, vm₁, B, X₁.warmed, X', hpost, fun target h => hstep₁ _ fun acts => by rw [doInvoke_state]; exact hsteps.trans h⟩
theorem vx_runSW {y : MethodName} {bytes cc : ByteArray} {maxL nL mc ms n index : Nat} {ret : Option FieldType} {hh : List (Nat × Nat × Nat × Nat)} {ws : List Cond} {rm : Room} {Pc : Array Value → State → Prop} {Qc : Array Value → State → Outcome → State → Prop} {free : Addr → Prop} {Ts : List Cond} {own : String} {As rest : List Value} {g : JFrame}
    (S : CallFix p m c cc nL s args Ts own) (hM : Met l y ws rm Pc Qc mc ms free) (cw : vx_CSW R s args own index y bytes maxL ret hh ws rm mc ms n) (hp : PreS s H Pc As)
    (hg : g.method = m) (hn : As.length = n) (hsize : g.locals.size = nL) (hstack : g.stack = As.reverse ++ rest) (hW : 2 * g.monitorRoom + (rest.map fun v => v.category).sum ≤ 8) (hdg : decode cc g.pc = .ok (.invokestatic index, 3)) (hf : cells + mc ≤ R.cells ∧ slots + ms ≤ R.slots) :
    va_Run p l e R s m args below meth c H locs cells slots mc ms g rest (Qc As.toArray) (free) := by
  obtain ⟨⟨hrc, hrs, hfr, hlo, hws, hcw⟩, hcode, hini, hy, hlen, hl, hstt⟩ := cw
  have hK : Back l R p e below s args y 3 8 (PreOf R mc ms Pc) (PostOf Qc mc ms free) := va_backW (hh := hh) (bytes := bytes) (maxL := maxL) (ret := ret) hM hp.1 hrc hrs hfr hlo hws hcw (fun a' U hW => word_at hW (Or.inl (by first | rfl | simp [Cond.onTables, Cond.keeps, Cond.steady])) hini)
  obtain ⟨hx, hb, hml, ho, -⟩ := S
  intro T hT X
  obtain ⟨v, vm₁, ⟨U', l2, c2, s2⟩, hW₁, X', ⟨g', mk, t, L, e1, e2, hq, h1, hL, h2, h3⟩, st⟩ := vx_callSW X hx (hh := hh) (bytes := bytes) (maxL := maxL) (ret := ret) ho hl hstt hini hcode hy hK hg (hsize.trans hml.symm) (argsL := As) (rest := rest) (fun sig h => hn.trans (hlen sig h)) hstack hW (by rw [hb]; exact hdg)
    (fun vm₁ hW₁ => ⟨hf.1, hf.2, hp.2 (T.setVm vm₁) hT hW₁⟩)
  dsimp only [Pt.U, Pt.locs, Pt.cells, Pt.slots] at X' e1 e2 h1 h2 h3 st
  subst h1; subst h2; subst h3
  exact ⟨v, (T.setVm vm₁).calling g' mk As.toArray, t, U', L, hT, X', hL, e1, e2, hq, st⟩
/-- not caught here, past rows that name other classes: it goes on to the caller -/
theorem vx_outP {p : Program} {l : Launch} {e : Env} {R : Room} {s : State} {m : MethodId} {args : Array Value} {below : List Frame} {meth : Method} {c : Code} {H : Heap} {locs : List Loc} {cells slots : Nat} {free : Addr → Prop} {ls : Array Slot} {rest : List Value} {Qc : Array Value → State → Outcome → State → Prop} {XC : String → State → State → Prop}
    {pc : Nat} {own E : String} {ce : Cell} {q : Addr} {mc ms : Nat} (hown : s.vm.findClass own = some m.cls) (hlocks : meth.locks = false)
    (hpass : ∀ z ∈ c.exceptionTable.toList, covers z pc = false ∨ (z.catchType ≠ 0 ∧ ∃ nm : String, (Cond.classLink own z.catchType nm).before args s = true ∧ va_Nc E nm s)) (hcell : H[q]? = some ce) (hv : ce.vm = .none) (hcl : s.vm.findClass E = some ce.cls)
    (hx : ∀ t : State, t.heap = H → s.vm.Alike t.vm → XC E s t) (hf : ∀ z ∈ locs, free z.base) (hc : cells ≤ mc) (hs : slots ≤ ms) :
    vx_W p l e R s m args below meth c H locs cells slots (vx_MQ below Qc XC args s mc ms free) (F0 m pc ls rest) q := by
  intro T hT X
  have hpl : e.platform.magicAccessors = ({} : Platform).magicAccessors := by rw [X.admits.platform]
  obtain ⟨vm', hW', X', st⟩ := X.outThrough hlocks q (g := F0 m pc ls rest) rfl rfl rfl (cell := ce) (by rw [hT]; exact hcell) (by rw [hv]; rfl)
    (by obtain ⟨k9, h9, -⟩ := Vm.findClass_spec hcl; exact ⟨k9, h9⟩) (fun z hz => by
      rcases hpass z hz with h | ⟨hz0, nm, hl1, hn1⟩
      · exact Or.inl h
      · obtain ⟨c6, hc6, hcl6⟩ := Cond.classLink_spec hown hl1 e.platform hpl
        obtain ⟨a8, b8, h1, h2, h3⟩ := hn1
        cases Option.some.inj (h1.symm.trans hcl)
        cases Option.some.inj (h2.symm.trans hc6)
        exact Or.inr ⟨hz0, _, hcl6, h3⟩)
  obtain ⟨g₀, hfr⟩ := X'.frames_eq
  have hcell9 : ((T.setVm vm').setFrames (.throwing q :: below)).heap[q]? = some ce := by
    show T.heap[q]? = some ce
    rw [hT]; exact hcell
  have hend : Ended ((T.setVm vm').setFrames (.throwing q :: below)) below (.threw q) := State.frames_setFrames _ (State.cur_lt_of_frames hfr)
  refine ⟨(T.setVm vm').setFrames (.throwing q :: below), ?_, .threw q, X'.here.running, hend, Or.inr ⟨q, rfl, E, ce, locs, hx _ hT (X'.ends _).1.alike, hcell9, hv, hcl, (X'.ends _).1, (X'.ends _).2.mono hc hs, hf⟩⟩
  rw [X.pushThrowing_eq]
  exact st
/-- a thing of a world lies in the heap -/
theorem vx_lt {D : va_G} {cl : List vw_C} {ws : va_W} {H1 : Heap} (h : va_P D cl ws H1) {k : Nat} {q : Nat × va_E} (hk : ws[k]? = some q) : q.1 < H1.size := (h k q hk).lt
end VXS
/-! ===== END ===== -/
/-! ===== BEGIN methods with a table of their own: called by a name, returning or throwing ===== -/
section VXH
/-! vx_backW, vx_callVX, vx_callSX, vx_callVW, vx_runVW, vx_runVX, vx_runSX, vx_ofWH follow the same proofs as their sisters above (Free/Laws.lean, Shelf42/LK1.lean); vx_outP calls Shelf42/NT130.lean (outThrough). -/
section
variable {l : Launch} {R : Room} {p : Program} {e : Env} {below : List Frame} {s : State} {sargs : Array Value} {y : MethodName} {len W9 : Nat}
theorem vx_backW {ws : List Cond} {rm : Room} {Pc : Array Value → State → Prop} {Qc : Array Value → State → Outcome → State → Prop} {XC : String → State → State → Prop} {mc ms : Nat} {free : Addr → Prop} {bytes : ByteArray} {maxL : Nat} {ret : Option FieldType} {hh : List (Nat × Nat × Nat × Nat)}
    (hM : vx_Met l y ws rm Pc Qc XC mc ms free) (hblind : FrameBlind Pc) (hrc : rm.cells = mc) (hrs : rm.slots = ms)
    (hframes : rm.frames + 1 ≤ R.frames) (hlocals : W9 + (maxL + 11) + rm.locals ≤ R.locals)
    (hws : ∀ w ∈ ws, ∀ a' U, s.WarmedH U.vm → w.before a' U = true) (hcode : Cond.codeWith y bytes maxL ret hh ∈ ws) (hinit : ∀ a' U, s.WarmedH U.vm → (Cond.initialized y.cls).before a' U = true) :
    vx_Back l R p e below s sargs y len W9 (PreOf R mc ms Pc) (PostOf Qc mc ms free) (vx_Post XC mc ms free) := by
  intro m meth c A g ig mk a X hg hsize hdg hW hn hp
  have h1 : (headSpec ws rm).pre.before a A.U = true := atoms_intro fun w hw => hws w hw _ _ X.warmed
  have h2 : (Cond.codeWith y bytes maxL ret hh).before a A.U = true := hws _ hcode _ _ X.warmed
  have h3 : (Cond.initialized y.cls).before a A.U = true := hinit _ _ X.warmed
  have h4 : A.cells + (headSpec ws rm).room.cells ≤ R.cells := by rw [show (headSpec ws rm).room.cells = mc from hrc]; exact hp.1
  have h5 : A.slots + (headSpec ws rm).room.slots ≤ R.slots := by rw [show (headSpec ws rm).room.slots = ms from hrs]; exact hp.2.1
  have hPc : Pc a (A.U.calling g mk a) := hblind _ _ _ _ hp.2.2
  obtain ⟨U, Ls, c0, s0⟩ := A
  dsimp only [Pt.U, Pt.locs, Pt.cells, Pt.slots] at h1 h2 h3 h4 h5 X hn hPc ⊢
  obtain ⟨m9, methY, cY, hn9, hmY, hcY, -, hlY, -⟩ := Cond.codeWith_spec h2
  cases Option.some.inj (hn9.symm.trans hn)
  obtain ⟨kY, hkY, -⟩ := className_of_methodNamed hn
  have hinitY : kY.init = .initialized := Cond.initialized_spec (findClass_of_methodNamed hn) hkY h3
  have h : At U g.method c below := by rw [hg]; exact X.here
  have hlocals9 : W9 + (maxL + 11) + (headSpec ws rm).room.locals ≤ R.locals := hlocals
  have happ : (headSpec ws rm).appliesLoose y e.platform (U.calling g mk a) = true :=
    Spec.appliesLoose_calling (g := g) h hdg hn hkY hinitY
      (X.room_calling (g := g) (R' := (headSpec ws rm).room) hsize hmY hcY hframes (by rw [hlY]; omega) h4 h5) h1
  obtain ⟨mid, hmid⟩ := h.above
  have hfr : (U.setTop g).frames = (.java g :: mid) ++ below := by rw [State.frames_setTop' g h.top, hmid]; rfl
  obtain ⟨o, s₂, hsteps, -, hend, hq⟩ := Steps.callFree hM p X.admits X.cas X.clock (acts := []) hfr happ hPc trivial
  have hq' : vx_Q Qc XC mc ms free a (U.calling g mk a) o s₂ := hq
  rw [State.frames_setTop' g h.top] at hend
  obtain ⟨g₀, hg0⟩ := Option.isSome_iff_exists.mp h.top
  obtain ⟨r, hr⟩ := State.topJava?_eq_some.mp hg0
  have hr' : (({ U with heap := s₂.heap, slotsUsed := s₂.slotsUsed } : State).setVm s₂.vm).frames = .java g₀ :: r := hr
  rcases hq' with ⟨hqc, L, hfe, hL⟩ | ⟨q, rfl, E, ce, L, hx, hce, hcv, hcl, hW₂, hsm, hL⟩
  · obtain ⟨⟨v, rfl⟩, hW₂, e2, q2, q3, q4, q5, q6⟩ := id hfe
    have e3 : s₂ = ({ (U.calling g mk a).setFrames s₂.frames with heap := s₂.heap, slotsUsed := s₂.slotsUsed } : State).setVm s₂.vm := by
      have : s₂ = ({ s₂ with vm := (U.calling g mk a).vm } : State).setVm s₂.vm := rfl
      rw [e2] at this
      exact this
    obtain ⟨c₂, i₂, len₂, hc₂, hd₂, hf₂⟩ := hend
    have hW' : U.WarmedH s₂.vm := hW₂
    have hcc : c₂ = c := by
      have h1 : s₂.code? g.method = U.code? g.method := by
        rw [State.code?_eq, State.code?_eq, hW'.alike.method?]
      exact Option.some.inj (hc₂.symm.trans (h1.trans h.code))
    subst hcc
    have hlen : len₂ = len := by rw [hdg] at hd₂; cases hd₂; rfl
    subst hlen
    have hs₂ : s₂ = (({ U with heap := s₂.heap, slotsUsed := s₂.slotsUsed } : State).setVm s₂.vm).setTop { g with pc := g.pc + len₂, stack := v.toList ++ g.stack } := by
      refine e3.trans ?_
      rw [hf₂, State.calling_eq h.top, State.setFrames_setFrames, State.setTop_of_frames _ hr', hr]
      rfl
    have hsame : U.sameButNew ({ U with heap := s₂.heap, slotsUsed := s₂.slotsUsed } : State) L mc ms := by
      refine ⟨?_, q2, q3, q4, q5, q6⟩
      obtain ⟨t, ht, -⟩ := State.frames_cons hr
      show ({ U with heap := s₂.heap, slotsUsed := s₂.slotsUsed } : State) = { U.setFrames U.frames with heap := s₂.heap, slotsUsed := s₂.slotsUsed }
      rw [State.setFrames_self ht]
    subst hg
    refine Or.inl ⟨v, ⟨(({ U with heap := s₂.heap, slotsUsed := s₂.slotsUsed } : State).setVm s₂.vm), Ls ++ L, c0 + mc, s0 + ms⟩,
      ⟨X.admits, X.cas, X.clock, X.frames, X.room, X.hears, X.method, X.code, (X.here.setHeapUsed s₂.heap s₂.slotsUsed).setVm hW'.alike, X.tail, State.WarmedH.trans X.warmed hW', X.limits, X.bytes, X.same.trans (hsame.setVm s.vm)⟩,
      ⟨g, mk, s₂, L, rfl, rfl, hqc, rfl, hL, rfl, rfl⟩, ?_⟩
    show Steps p.tables e below _ ((({ U with heap := s₂.heap, slotsUsed := s₂.slotsUsed } : State).setVm s₂.vm).setTop { g with pc := g.pc + len₂, stack := v.toList ++ g.stack })
    rw [← hs₂]
    exact hsteps
  · obtain ⟨e2, q2, q3, q4, q5, q6⟩ := id hsm
    have e3 : s₂ = ({ (U.calling g mk a).setFrames s₂.frames with heap := s₂.heap, slotsUsed := s₂.slotsUsed } : State).setVm s₂.vm := by
      have : s₂ = ({ s₂ with vm := (U.calling g mk a).vm } : State).setVm s₂.vm := rfl
      rw [e2] at this
      exact this
    have hf₂ : s₂.frames = .throwing q :: .java g :: U.frames.tail := hend
    have hW' : U.WarmedH s₂.vm := hW₂
    have hs₂ : s₂ = ((({ U with heap := s₂.heap, slotsUsed := s₂.slotsUsed } : State).setVm s₂.vm).setTop g).pushFrame (.throwing q) := by
      refine e3.trans ?_
      rw [hf₂, State.calling_eq h.top, State.setFrames_setFrames, State.pushFrame, State.frames_setTop _ hr', State.setTop_of_frames _ hr', State.setFrames_setFrames, hr]
      rfl
    have hsame : U.sameButNew ({ U with heap := s₂.heap, slotsUsed := s₂.slotsUsed } : State) L mc ms := by
      refine ⟨?_, q2, q3, q4, q5, q6⟩
      obtain ⟨t, ht, -⟩ := State.frames_cons hr
      show ({ U with heap := s₂.heap, slotsUsed := s₂.slotsUsed } : State) = { U.setFrames U.frames with heap := s₂.heap, slotsUsed := s₂.slotsUsed }
      rw [State.setFrames_self ht]
    subst hg
    refine Or.inr ⟨q, ⟨(({ U with heap := s₂.heap, slotsUsed := s₂.slotsUsed } : State).setVm s₂.vm), Ls ++ L, c0 + mc, s0 + ms⟩,
      ⟨X.admits, X.cas, X.clock, X.frames, X.room, X.hears, X.method, X.code, (X.here.setHeapUsed s₂.heap s₂.slotsUsed).setVm hW'.alike, X.tail, State.WarmedH.trans X.warmed hW', X.limits, X.bytes, X.same.trans (hsame.setVm s.vm)⟩,
      ⟨g, mk, s₂, L, E, ce, rfl, rfl, hx, hce, hcv, hcl, rfl, hL, rfl, rfl⟩, ?_⟩
    show Steps p.tables e below _ (((({ U with heap := s₂.heap, slotsUsed := s₂.slotsUsed } : State).setVm s₂.vm).setTop g).pushFrame (.throwing q))
    rw [← hs₂]
    exact hsteps
end
variable {p : Program} {l : Launch} {e : Env} {R : Room} {s : State} {m : MethodId} {args : Array Value} {below : List Frame} {meth : Method} {c : Code} {T : State} {H : Heap} {locs : List Loc} {cells slots : Nat}
theorem vx_callVX (X : Stand p l e R s m args below meth c T locs cells slots) (hexec : p.tables.exec = Jvm.exec) {own C : String} {index : Nat} {y : MethodName} {bytes : ByteArray} {maxL : Nat} {ret : Option FieldType} {hh : List (Nat × Nat × Nat × Nat)}
    (hown : s.vm.findClass own = some m.cls) (hlink : (Cond.methodLink own index y).before args s = true) (hinst : (Cond.instanceMethod y).before args s = true) (hsel : (Cond.selects C y y).before args s = true)
    (hcode : (Cond.codeWith y bytes maxL ret hh).before args s = true) (hy : y.cls ≠ "java/lang/invoke/MethodHandle" ∧ y.cls ≠ "java/lang/invoke/VarHandle")
    {W9 : Nat} {Pre : Pt → Array Value → Prop} {Post : Pt → Array Value → Option Value → Pt → Prop} {PostX : Pt → Array Value → Addr → Pt → Prop} (hK : vx_Back l R p e below s args y 3 W9 Pre Post PostX)
    {b : Addr} {cellB : Cell} (hcell : T.heap[b]? = some cellB) (hobj : cellB.vm.isStatics = false) (hcls : s.vm.findClass C = some cellB.cls)
    {g : JFrame} (hg : g.method = m) (hsize : g.locals.size = c.maxLocals) {argsL rest : List Value} (hlen : ∀ sig, parseMethodDescriptor y.desc = some sig → argsL.length = sig.parameters.length)
    (hstack : g.stack = argsL.reverse ++ .ref b :: rest) (hW : 2 * g.monitorRoom + (rest.map fun v => v.category).sum ≤ W9) (hdg : decode c.code g.pc = .ok (.invokevirtual index, 3))
    (hpre : ∀ vm₁, s.WarmedH vm₁ → Pre ⟨T.setVm vm₁, locs, cells, slots⟩ (Value.ref b :: argsL).toArray) :
    (∃ (v : Option Value) (vm₁ : Vm) (B : Pt), s.WarmedH vm₁ ∧ Stand p l e R s m args below meth c B.U B.locs B.cells B.slots ∧ Post ⟨T.setVm vm₁, locs, cells, slots⟩ (Value.ref b :: argsL).toArray v B ∧
      ∀ target, Steps p.tables e below (B.U.setTop { g with pc := g.pc + 3, stack := v.toList ++ rest }) target → Steps p.tables e below (T.setTop g) target) ∨
    (∃ (q : Addr) (vm₁ : Vm) (B : Pt), s.WarmedH vm₁ ∧ Stand p l e R s m args below meth c B.U B.locs B.cells B.slots ∧ PostX ⟨T.setVm vm₁, locs, cells, slots⟩ (Value.ref b :: argsL).toArray q B ∧
      Steps p.tables e below (T.setTop g) ((B.U.setTop { g with stack := rest }).pushFrame (.throwing q))) := by
  obtain ⟨mk, methM, hnamed, hmethM, hstM, habM⟩ := Cond.instanceMethod_spec hinst
  obtain ⟨m8, methM', cM, hn8, hmethM', -, -, -, -, -, -, hsigM⟩ := Cond.codeWith_spec hcode
  cases Option.some.inj (hn8.symm.trans hnamed)
  cases hmethM.symm.trans hmethM'
  obtain ⟨c2, r2, m2, q1, q2, q3, q4, kP, hkP, hkPi⟩ := Cond.selects_spec hsel
  cases hcls.symm.trans q1
  cases (State.methodFound?_of_named hnamed hy).symm.trans q2
  cases hnamed.symm.trans q3
  have hselP : selectMethod e.platform s.vm cellB.cls mk = .method mk := by rw [Launch.admits_selectMethod X.admits]; exact q4
  obtain ⟨vm₁, X₁, hstep₁⟩ := X.invokevirtual hexec hown hlink hnamed hmethM hstM hkP hkPi hy (a := b) (cell := cellB) hcell
    (fun z h => by rw [h] at hobj; cases hobj) hselP hmethM habM hkP hkPi (g := g) hg (argsL := argsL) (rest := rest) (hlen _ hsigM) hstack hdg
  rcases hK m meth c ⟨T.setVm vm₁, locs, cells, slots⟩ { g with stack := rest } (.invokevirtual index) mk (Value.ref b :: argsL).toArray X₁ hg hsize hdg hW (X₁.named hnamed) (hpre vm₁ X₁.warmed) with ⟨v, B, X', hpost, hsteps⟩ | ⟨q, B, X', hpost, hsteps⟩
  · exact Or.inl ⟨v, vm₁, B, X₁.warmed, X', hpost, fun target h => hstep₁ _ fun acts => by rw [doInvoke_state]; exact hsteps.trans h⟩
  · exact Or.inr ⟨q, vm₁, B, X₁.warmed, X', hpost, hstep₁ _ fun acts => by rw [doInvoke_state]; exact hsteps⟩
theorem vx_callSX (X : Stand p l e R s m args below meth c T locs cells slots) (hexec : p.tables.exec = Jvm.exec) {own : String} {index : Nat} {y : MethodName} {bytes : ByteArray} {maxL : Nat} {ret : Option FieldType} {hh : List (Nat × Nat × Nat × Nat)}
    (hown : s.vm.findClass own = some m.cls) (hlink : (Cond.methodLink own index y).before args s = true) (hstat : (Cond.static y).before args s = true) (hinit : (Cond.initialized y.cls).before args s = true)
    (hcode : (Cond.codeWith y bytes maxL ret hh).before args s = true) (hy : y.cls ≠ "java/lang/invoke/MethodHandle" ∧ y.cls ≠ "java/lang/invoke/VarHandle")
    {W9 : Nat} {Pre : Pt → Array Value → Prop} {Post : Pt → Array Value → Option Value → Pt → Prop} {PostX : Pt → Array Value → Addr → Pt → Prop} (hK : vx_Back l R p e below s args y 3 W9 Pre Post PostX)
    {g : JFrame} (hg : g.method = m) (hsize : g.locals.size = c.maxLocals) {argsL rest : List Value} (hlen : ∀ sig, parseMethodDescriptor y.desc = some sig → argsL.length = sig.parameters.length)
    (hstack : g.stack = argsL.reverse ++ rest) (hW : 2 * g.monitorRoom + (rest.map fun v => v.category).sum ≤ W9) (hdg : decode c.code g.pc = .ok (.invokestatic index, 3))
    (hpre : ∀ vm₁, s.WarmedH vm₁ → Pre ⟨T.setVm vm₁, locs, cells, slots⟩ argsL.toArray) :
    (∃ (v : Option Value) (vm₁ : Vm) (B : Pt), s.WarmedH vm₁ ∧ Stand p l e R s m args below meth c B.U B.locs B.cells B.slots ∧ Post ⟨T.setVm vm₁, locs, cells, slots⟩ argsL.toArray v B ∧
      ∀ target, Steps p.tables e below (B.U.setTop { g with pc := g.pc + 3, stack := v.toList ++ rest }) target → Steps p.tables e below (T.setTop g) target) ∨
    (∃ (q : Addr) (vm₁ : Vm) (B : Pt), s.WarmedH vm₁ ∧ Stand p l e R s m args below meth c B.U B.locs B.cells B.slots ∧ PostX ⟨T.setVm vm₁, locs, cells, slots⟩ argsL.toArray q B ∧
      Steps p.tables e below (T.setTop g) ((B.U.setTop { g with stack := rest }).pushFrame (.throwing q))) := by
  obtain ⟨mk, methM, cM, hnamed, hmethM, -, -, -, -, -, -, hsigM⟩ := Cond.codeWith_spec hcode
  have hstatic : methM.isStatic = true := Cond.static_spec hnamed hmethM hstat
  obtain ⟨kP, hkP, -⟩ := className_of_methodNamed hnamed
  have hinitP : kP.init = .initialized := Cond.initialized_spec (findClass_of_methodNamed hnamed) hkP hinit
  obtain ⟨vm₁, X₁, hstep₁⟩ := X.invokestatic hexec hown hlink hnamed hmethM hstatic hkP hinitP hy (g := g) hg (argsL := argsL) (rest := rest) (hlen _ hsigM) hstack hdg
  rcases hK m meth c ⟨T.setVm vm₁, locs, cells, slots⟩ { g with stack := rest } (.invokestatic index) mk argsL.toArray X₁ hg hsize hdg hW (X₁.named hnamed) (hpre vm₁ X₁.warmed) with ⟨v, B, X', hpost, hsteps⟩ | ⟨q, B, X', hpost, hsteps⟩
  · exact Or.inl ⟨v, vm₁, B, X₁.warmed, X', hpost, fun target h => hstep₁ _ fun acts => by rw [doInvoke_state]; exact hsteps.trans h⟩
  · exact Or.inr ⟨q, vm₁, B, X₁.warmed, X', hpost, hstep₁ _ fun acts => by rw [doInvoke_state]; exact hsteps⟩
theorem vx_callVW (X : Stand p l e R s m args below meth c T locs cells slots) (hexec : p.tables.exec = Jvm.exec) {own C : String} {index : Nat} {y : MethodName} {bytes : ByteArray} {maxL : Nat} {ret : Option FieldType} {hh : List (Nat × Nat × Nat × Nat)}
    (hown : s.vm.findClass own = some m.cls) (hlink : (Cond.methodLink own index y).before args s = true) (hinst : (Cond.instanceMethod y).before args s = true) (hsel : (Cond.selects C y y).before args s = true)
    (hcode : (Cond.codeWith y bytes maxL ret hh).before args s = true) (hy : y.cls ≠ "java/lang/invoke/MethodHandle" ∧ y.cls ≠ "java/lang/invoke/VarHandle")
    {W9 : Nat} {Pre : Pt → Array Value → Prop} {Post : Pt → Array Value → Option Value → Pt → Prop} (hK : Back l R p e below s args y 3 W9 Pre Post)
    {b : Addr} {cellB : Cell} (hcell : T.heap[b]? = some cellB) (hobj : cellB.vm.isStatics = false) (hcls : s.vm.findClass C = some cellB.cls)
    {g : JFrame} (hg : g.method = m) (hsize : g.locals.size = c.maxLocals) {argsL rest : List Value} (hlen : ∀ sig, parseMethodDescriptor y.desc = some sig → argsL.length = sig.parameters.length)
    (hstack : g.stack = argsL.reverse ++ .ref b :: rest) (hW : 2 * g.monitorRoom + (rest.map fun v => v.category).sum ≤ W9) (hdg : decode c.code g.pc = .ok (.invokevirtual index, 3))
    (hpre : ∀ vm₁, s.WarmedH vm₁ → Pre ⟨T.setVm vm₁, locs, cells, slots⟩ (Value.ref b :: argsL).toArray) :
    ∃ (v : Option Value) (vm₁ : Vm) (B : Pt), s.WarmedH vm₁ ∧ Stand p l e R s m args below meth c B.U B.locs B.cells B.slots ∧ Post ⟨T.setVm vm₁, locs, cells, slots⟩ (Value.ref b :: argsL).toArray v B ∧
      ∀ target, Steps p.tables e below (B.U.setTop { g with pc := g.pc + 3, stack := v.toList ++ rest }) target → Steps p.tables e below (T.setTop g) target := by
  obtain ⟨mk, methM, hnamed, hmethM, hstM, habM⟩ := Cond.instanceMethod_spec hinst
  obtain ⟨m8, methM', cM, hn8, hmethM', -, -, -, -, -, -, hsigM⟩ := Cond.codeWith_spec hcode
  cases Option.some.inj (hn8.symm.trans hnamed)
  cases hmethM.symm.trans hmethM'
  obtain ⟨c2, r2, m2, q1, q2, q3, q4, kP, hkP, hkPi⟩ := Cond.selects_spec hsel
  cases hcls.symm.trans q1
  cases (State.methodFound?_of_named hnamed hy).symm.trans q2
  cases hnamed.symm.trans q3
  have hselP : selectMethod e.platform s.vm cellB.cls mk = .method mk := by rw [Launch.admits_selectMethod X.admits]; exact q4
  obtain ⟨vm₁, X₁, hstep₁⟩ := X.invokevirtual hexec hown hlink hnamed hmethM hstM hkP hkPi hy (a := b) (cell := cellB) hcell
    (fun z h => by rw [h] at hobj; cases hobj) hselP hmethM habM hkP hkPi (g := g) hg (argsL := argsL) (rest := rest) (hlen _ hsigM) hstack hdg
  obtain ⟨v, B, X', hpost, hsteps⟩ := hK m meth c ⟨T.setVm vm₁, locs, cells, slots⟩ { g with stack := rest } (.invokevirtual index) mk (Value.ref b :: argsL).toArray X₁ hg hsize hdg hW (X₁.named hnamed) (hpre vm₁ X₁.warmed)
  exact ⟨v, vm₁, B, X₁.warmed, X', hpost, fun target h => hstep₁ _ fun acts => by rw [doInvoke_state]; exact hsteps.trans h⟩
abbrev vx_CVW (R : Room) (s : State) (args : Array Value) (own C : String) (index : Nat) (y : MethodName) (bytes : ByteArray) (maxL : Nat) (ret : Option FieldType) (hh : List (Nat × Nat × Nat × Nat)) (ws : List Cond) (rm : Room) (mc ms n : Nat) : Prop :=
  (rm.cells = mc ∧ rm.slots = ms ∧ rm.frames + 1 ≤ R.frames ∧ 8 + (maxL + 11) + rm.locals ≤ R.locals ∧ (∀ w ∈ ws, ∀ (a' : Array Value) (U : State), s.WarmedH U.vm → w.before a' U = true) ∧ Cond.codeWith y bytes maxL ret hh ∈ ws) ∧
  (Cond.codeWith y bytes maxL ret hh).before args s = true ∧ (Cond.initialized y.cls).before args s = true ∧ (y.cls ≠ "java/lang/invoke/MethodHandle" ∧ y.cls ≠ "java/lang/invoke/VarHandle") ∧
  (∀ sig, parseMethodDescriptor y.desc = some sig → n = sig.parameters.length) ∧ (Cond.methodLink own index y).before args s = true ∧ (Cond.instanceMethod y).before args s = true ∧ (Cond.selects C y y).before args s = true
theorem vx_cwVW {own C : String} {index maxL mc ms : Nat} {y : MethodName} {bytes : ByteArray} {ret : Option FieldType} {hh : List (Nat × Nat × Nat × Nat)} {Ts ws ws' : List Cond} {rm : Room} (n : Nat) (ht : ∀ w ∈ Ts, w.before args s = true) (hT : GoodIn Ts (wsV own index C y ws)) (hw : ws = Cond.codeWith y bytes maxL ret hh :: ws') (hrc : rm.cells = mc) (hrs : rm.slots = ms)
    (hd : y.cls = C ∧ y.cls ≠ "java/lang/invoke/MethodHandle" ∧ y.cls ≠ "java/lang/invoke/VarHandle" ∧ (parseMethodDescriptor y.desc).map (fun d => d.parameters.length) = some n) (hR : rm.frames + 1 ≤ R.frames ∧ 8 + (maxL + 11) + rm.locals ≤ R.locals) :
    vx_CVW R s args own C index y bytes maxL ret hh ws rm mc ms n := by
  obtain ⟨hC, hd⟩ := hd
  subst hC
  have ok : ∀ w ∈ wsV own index y.cls y ws, w.before args s = true := fun w h => ht w (hT w h).1
  have hG : GoodIn Ts ws := fun w h => hT w (by unfold wsV; exact List.mem_append_right _ h)
  have hc : Cond.codeWith y bytes maxL ret hh ∈ ws := by rw [hw]; exact List.mem_cons_self
  refine ⟨⟨hrc, hrs, hR.1, hR.2, pay_in ht hG, hc⟩, ht _ (hG _ hc).1, ok _ (by simp [wsV]), ⟨hd.1, hd.2.1⟩, fun sig h => ?_, ok _ (by simp [wsV]), ok _ (by simp [wsV]), ok _ (by simp [wsV])⟩
  have h2 := hd.2.2
  rw [h] at h2
  exact (Option.some.inj h2).symm
theorem vx_runVW {y : MethodName} {bytes cc : ByteArray} {maxL nL mc ms n index : Nat} {ret : Option FieldType} {hh : List (Nat × Nat × Nat × Nat)} {ws : List Cond} {rm : Room} {Pc : Array Value → State → Prop} {Qc : Array Value → State → Outcome → State → Prop} {free : Addr → Prop} {Ts : List Cond} {own C : String} {b : Addr} {As rest : List Value} {g : JFrame}
    (S : CallFix p m c cc nL s args Ts own) (hM : Met l y ws rm Pc Qc mc ms free) (cw : vx_CVW R s args own C index y bytes maxL ret hh ws rm mc ms n) (hp : PreV s H C b Pc As)
    (hg : g.method = m) (hn : As.length = n) (hsize : g.locals.size = nL) (hstack : g.stack = As.reverse ++ .ref b :: rest) (hW : 2 * g.monitorRoom + (rest.map fun v => v.category).sum ≤ 8) (hdg : decode cc g.pc = .ok (.invokevirtual index, 3)) (hf : cells + mc ≤ R.cells ∧ slots + ms ≤ R.slots) :
    va_Run p l e R s m args below meth c H locs cells slots mc ms g rest (Qc (Value.ref b :: As).toArray) free := by
  obtain ⟨⟨hrc, hrs, hfr, hlo, hws, hcw⟩, hcode, hini, hy, hlen, hl, hin, hse⟩ := cw
  have hK : Back l R p e below s args y 3 8 (PreOf R mc ms Pc) (PostOf Qc mc ms free) := va_backW (hh := hh) (bytes := bytes) (maxL := maxL) (ret := ret) hM hp.1 hrc hrs hfr hlo hws hcw (fun a' U hW => word_at hW (Or.inl (by first | rfl | simp [Cond.onTables, Cond.keeps, Cond.steady])) hini)
  obtain ⟨hx, hb, hml, ho, -⟩ := S
  obtain ⟨-, ⟨cellB, hcB, hoB, hclB⟩, hPc⟩ := hp
  intro T hT X
  obtain ⟨v, vm₁, ⟨U', l2, c2, s2⟩, hW₁, X', ⟨g', mk, t, L, e1, e2, hq, h1, hL, h2, h3⟩, st⟩ := vx_callVW X hx (C := C) (hh := hh) (bytes := bytes) (maxL := maxL) (ret := ret) ho hl hin hse hcode hy hK (by rw [hT]; exact hcB) hoB hclB hg (hsize.trans hml.symm) (argsL := As) (rest := rest) (fun sig h => hn.trans (hlen sig h)) hstack hW (by rw [hb]; exact hdg)
    (fun vm₁ hW₁ => ⟨hf.1, hf.2, hPc (T.setVm vm₁) hT hW₁⟩)
  dsimp only [Pt.U, Pt.locs, Pt.cells, Pt.slots] at X' e1 e2 h1 h2 h3 st
  subst h1; subst h2; subst h3
  exact ⟨v, (T.setVm vm₁).calling g' mk (Value.ref b :: As).toArray, t, U', L, hT, X', hL, e1, e2, hq, st⟩
section
variable {y : MethodName} {bytes cc : ByteArray} {maxL nL mc ms n index : Nat} {ret : Option FieldType} {ws : List Cond} {rm : Room} {Pc : Array Value → State → Prop} {Qc : Array Value → State → Outcome → State → Prop} {XC : String → State → State → Prop} {free : Addr → Prop} {Ts : List Cond} {own C : String} {b : Addr} {As rest : List Value} {g : JFrame}
theorem vx_runVX {hh : List (Nat × Nat × Nat × Nat)} (S : CallFix p m c cc nL s args Ts own) (hM : vx_Met l y ws rm Pc Qc XC mc ms free) (cw : vx_CVW R s args own C index y bytes maxL ret hh ws rm mc ms n) (hp : PreV s H C b Pc As)
    (hg : g.method = m) (hn : As.length = n) (hsize : g.locals.size = nL) (hstack : g.stack = As.reverse ++ .ref b :: rest) (hW : 2 * g.monitorRoom + (rest.map fun v => v.category).sum ≤ 8) (hdg : decode cc g.pc = .ok (.invokevirtual index, 3)) (hf : cells + mc ≤ R.cells ∧ slots + ms ≤ R.slots) :
    vx_Run p l e R s m args below meth c H locs cells slots mc ms g rest (Qc (Value.ref b :: As).toArray) XC free := by
  obtain ⟨⟨hrc, hrs, hfr, hlo, hws, hcw⟩, hcode, hini, hy, hlen, hl, hin, hse⟩ := cw
  have hK : vx_Back l R p e below s args y 3 8 (PreOf R mc ms Pc) (PostOf Qc mc ms free) (vx_Post XC mc ms free) := vx_backW (hh := hh) (bytes := bytes) (maxL := maxL) (ret := ret) hM hp.1 hrc hrs hfr hlo hws hcw (fun a' U hW => word_at hW (Or.inl (by first | rfl | simp [Cond.onTables, Cond.keeps, Cond.steady])) hini)
  obtain ⟨hx, hb, hml, ho, -⟩ := S
  obtain ⟨-, ⟨cellB, hcB, hoB, hclB⟩, hPc⟩ := hp
  intro T hT X
  rcases vx_callVX X hx (C := C) (hh := hh) (bytes := bytes) (maxL := maxL) (ret := ret) ho hl hin hse hcode hy hK (by rw [hT]; exact hcB) hoB hclB hg (hsize.trans hml.symm) (argsL := As) (rest := rest) (fun sig h => hn.trans (hlen sig h)) hstack hW (by rw [hb]; exact hdg)
    (fun vm₁ hW₁ => ⟨hf.1, hf.2, hPc (T.setVm vm₁) hT hW₁⟩) with ⟨v, vm₁, ⟨U', l2, c2, s2⟩, hW₁, X', ⟨g', mk, t, L, e1, e2, hq, h1, hL, h2, h3⟩, st⟩ | ⟨q, vm₁, ⟨U', l2, c2, s2⟩, hW₁, X', ⟨g', mk, t, L, E, ce, e1, e2, hq, hce, hcv, hcl, h1, hL, h2, h3⟩, st⟩
  · dsimp only [Pt.U, Pt.locs, Pt.cells, Pt.slots] at X' e1 e2 h1 h2 h3 st
    subst h1; subst h2; subst h3
    exact Or.inl ⟨v, (T.setVm vm₁).calling g' mk (Value.ref b :: As).toArray, t, U', L, hT, X', hL, e1, e2, hq, st⟩
  · dsimp only [Pt.U, Pt.locs, Pt.cells, Pt.slots] at X' e1 e2 h1 h2 h3 st hcl
    subst h1; subst h2; subst h3
    exact Or.inr ⟨q, (T.setVm vm₁).calling g' mk (Value.ref b :: As).toArray, t, U', L, E, ce, hT, X', hL, e1, e2, hq, hce, hcv, vx_cls hW₁ hcl, st⟩
theorem vx_runSX {hh : List (Nat × Nat × Nat × Nat)} (S : CallFix p m c cc nL s args Ts own) (hM : vx_Met l y ws rm Pc Qc XC mc ms free) (cw : vx_CSW R s args own index y bytes maxL ret hh ws rm mc ms n) (hp : PreS s H Pc As)
    (hg : g.method = m) (hn : As.length = n) (hsize : g.locals.size = nL) (hstack : g.stack = As.reverse ++ rest) (hW : 2 * g.monitorRoom + (rest.map fun v => v.category).sum ≤ 8) (hdg : decode cc g.pc = .ok (.invokestatic index, 3)) (hf : cells + mc ≤ R.cells ∧ slots + ms ≤ R.slots) :
    vx_Run p l e R s m args below meth c H locs cells slots mc ms g rest (Qc As.toArray) XC free := by
  obtain ⟨⟨hrc, hrs, hfr, hlo, hws, hcw⟩, hcode, hini, hy, hlen, hl, hstt⟩ := cw
  have hK : vx_Back l R p e below s args y 3 8 (PreOf R mc ms Pc) (PostOf Qc mc ms free) (vx_Post XC mc ms free) := vx_backW (hh := hh) (bytes := bytes) (maxL := maxL) (ret := ret) hM hp.1 hrc hrs hfr hlo hws hcw (fun a' U hW => word_at hW (Or.inl (by first | rfl | simp [Cond.onTables, Cond.keeps, Cond.steady])) hini)
  obtain ⟨hx, hb, hml, ho, -⟩ := S
  intro T hT X
  rcases vx_callSX X hx (hh := hh) (bytes := bytes) (maxL := maxL) (ret := ret) ho hl hstt hini hcode hy hK hg (hsize.trans hml.symm) (argsL := As) (rest := rest) (fun sig h => hn.trans (hlen sig h)) hstack hW (by rw [hb]; exact hdg)
    (fun vm₁ hW₁ => ⟨hf.1, hf.2, hp.2 (T.setVm vm₁) hT hW₁⟩) with ⟨v, vm₁, ⟨U', l2, c2, s2⟩, hW₁, X', ⟨g', mk, t, L, e1, e2, hq, h1, hL, h2, h3⟩, st⟩ | ⟨q, vm₁, ⟨U', l2, c2, s2⟩, hW₁, X', ⟨g', mk, t, L, E, ce, e1, e2, hq, hce, hcv, hcl, h1, hL, h2, h3⟩, st⟩
  · dsimp only [Pt.U, Pt.locs, Pt.cells, Pt.slots] at X' e1 e2 h1 h2 h3 st
    subst h1; subst h2; subst h3
    exact Or.inl ⟨v, (T.setVm vm₁).calling g' mk As.toArray, t, U', L, hT, X', hL, e1, e2, hq, st⟩
  · dsimp only [Pt.U, Pt.locs, Pt.cells, Pt.slots] at X' e1 e2 h1 h2 h3 st hcl
    subst h1; subst h2; subst h3
    exact Or.inr ⟨q, (T.setVm vm₁).calling g' mk As.toArray, t, U', L, E, ce, hT, X', hL, e1, e2, hq, hce, hcv, vx_cls hW₁ hcl, st⟩
end
end VXH
theorem vx_ofWH {l : Launch} {y : MethodName} {ws ws' : List Cond} {rm : Room} {Pc : Array Value → State → Prop} {Qc : Array Value → State → Outcome → State → Prop} {XC : String → State → State → Prop} {mc ms : Nat} {free : Addr → Prop} {cc : ByteArray} {maxL : Nat} {ret : Option FieldType} {hh : List (Nat × Nat × Nat × Nat)}
    (hy : plainName y.cls = true) (hw : ws = Cond.codeWith y cc maxL ret hh :: ws')
    (body : ∀ p e s m args below meth c s₁, BodyLoose p l y (headSpec ws rm) cc maxL ret e s m args below meth c s₁ → c.maxLocals = maxL → Pc args s →
      W p l e (headSpec ws rm).room s m args below meth c s.heap [] 0 0 (vx_MQ below Qc XC args s mc ms free) (entryFrame m args maxL)) : vx_Met l y ws rm Pc Qc XC mc ms free := by
  refine MetFree.of_bodyS (code := cc) (maxLocals := maxL) (ret := ret) hy ?_ ?_
  · intro args s m h hn
    obtain ⟨m9, meth, c, hn9, h1, h2, h3, h4, -, h5, h6, -⟩ := Cond.codeWith_spec (atoms_spec (ws := ws) h _ (by rw [hw]; exact List.mem_cons_self))
    cases hn.symm.trans hn9
    exact ⟨meth, c, h1, h2, h3, h4, h5, h6⟩
  · intro p e s m args below meth c s₁ B hml hP _
    have hh0 : s₁.heap = s.heap := by rw [B.state]; rfl
    obtain ⟨t, a1, o, b1, b2, b3⟩ := body p e s m args below meth c s₁ B hml hP s₁ hh0 (Stand.of_body B)
    exact ⟨t, o, a1, b1, b2, b3⟩
/-! ===== END ===== -/
end
section
/-! ===== BEGIN printed: names, fields, word lists, decode rows ===== -/
def RX0 : String := "RoyalUrTable$Dice"
def TX0 : u_T := fun k => match k with
  | _ => ("", "", "", false)
def tyX0 : Nat → FieldType := fun k => match k with
  | _ => .int
abbrev wsX00 : List Cond := u_ws RX0 TX0 0
theorem nmX0 : ∀ a, a < 0 → ∀ b, b < 0 → a ≠ b → (TX0 a).2.1 ≠ (TX0 b).2.1 := by decide +kernel
theorem tyX0_ok : ∀ k, k < 0 → parseFieldDescriptor (TX0 k).2.2.1 = some (tyX0 k) := by decide +kernel
abbrev cX0_timesIn16 : ByteArray := prog_2_method_2_code
def yX0_timesIn16 : MethodName := ⟨RX0, "timesIn16", "(I)I"⟩
def RX1 : String := "RoyalUrTable$Endings"
def TX1 : u_T := fun k => match k with
  | 0 => ("RoyalUrTable$Endings", "worths", "[I", true)
  | _ => ("RoyalUrTable$Endings", "roundsHeld", "I", false)
def tyX1 : Nat → FieldType := fun k => match k with
  | 0 => .array .int
  | _ => .int
abbrev wsX10 : List Cond := u_ws RX1 TX1 2
theorem nmX1 : ∀ a, a < 2 → ∀ b, b < 2 → a ≠ b → (TX1 a).2.1 ≠ (TX1 b).2.1 := by decide +kernel
theorem tyX1_ok : ∀ k, k < 2 → parseFieldDescriptor (TX1 k).2.2.1 = some (tyX1 k) := by decide +kernel
abbrev cX1_init : ByteArray := prog_3_method_1_code
def yX1_init : MethodName := ⟨RX1, "<init>", "()V"⟩
abbrev cX1_fillUpTo : ByteArray := prog_3_method_2_code
def yX1_fillUpTo : MethodName := ⟨RX1, "fillUpTo", "(I)V"⟩
abbrev cX1_held : ByteArray := prog_3_method_3_code
def yX1_held : MethodName := ⟨RX1, "held", "(III)I"⟩
abbrev cX1_playedOut : ByteArray := prog_3_method_4_code
def yX1_playedOut : MethodName := ⟨RX1, "playedOut", "(III)I"⟩
abbrev cX1_fillRow : ByteArray := prog_3_method_5_code
def yX1_fillRow : MethodName := ⟨RX1, "fillRow", "(I)V"⟩
abbrev cX1_worthToThrow : ByteArray := prog_3_method_6_code
def yX1_worthToThrow : MethodName := ⟨RX1, "worthToThrow", "(IIII)I"⟩
abbrev cX1_worthBehindThrow : ByteArray := prog_3_method_7_code
def yX1_worthBehindThrow : MethodName := ⟨RX1, "worthBehindThrow", "(IIIII)I"⟩
def RX2 : String := "RoyalUrTable$Layout"
def TX2 : u_T := fun k => match k with
  | _ => ("", "", "", false)
def tyX2 : Nat → FieldType := fun k => match k with
  | _ => .int
abbrev wsX20 : List Cond := u_ws RX2 TX2 0
theorem nmX2 : ∀ a, a < 0 → ∀ b, b < 0 → a ≠ b → (TX2 a).2.1 ≠ (TX2 b).2.1 := by decide +kernel
theorem tyX2_ok : ∀ k, k < 0 → parseFieldDescriptor (TX2 k).2.2.1 = some (tyX2 k) := by decide +kernel
abbrev cX2_allAtStart : ByteArray := prog_4_method_2_code
def yX2_allAtStart : MethodName := ⟨RX2, "allAtStart", "(I)J"⟩
abbrev cX2_countAt : ByteArray := prog_4_method_3_code
def yX2_countAt : MethodName := ⟨RX2, "countAt", "(JI)I"⟩
abbrev cX2_shifted : ByteArray := prog_4_method_4_code
def yX2_shifted : MethodName := ⟨RX2, "shifted", "(JII)J"⟩
abbrev cX2_isAllHome : ByteArray := prog_4_method_5_code
def yX2_isAllHome : MethodName := ⟨RX2, "isAllHome", "(J)Z"⟩
abbrev cX2_sumOfPlaces : ByteArray := prog_4_method_6_code
def yX2_sumOfPlaces : MethodName := ⟨RX2, "sumOfPlaces", "(J)I"⟩
abbrev cX2_firstPlace : ByteArray := prog_4_method_7_code
def yX2_firstPlace : MethodName := ⟨RX2, "firstPlace", "(J)I"⟩
abbrev cX2_canMove : ByteArray := prog_4_method_8_code
def yX2_canMove : MethodName := ⟨RX2, "canMove", "(JJII)Z"⟩
abbrev cX2_canBeTaken : ByteArray := prog_4_method_9_code
def yX2_canBeTaken : MethodName := ⟨RX2, "canBeTaken", "(JI)Z"⟩
def RX3 : String := "RoyalUrTable$Side"
def TX3 : u_T := fun k => match k with
  | 0 => ("RoyalUrTable$Side", "layout", "J", false)
  | _ => ("RoyalUrTable$Side", "lost", "I", false)
def tyX3 : Nat → FieldType := fun k => match k with
  | 0 => .long
  | _ => .int
abbrev wsX30 : List Cond := u_ws RX3 TX3 2
theorem nmX3 : ∀ a, a < 2 → ∀ b, b < 2 → a ≠ b → (TX3 a).2.1 ≠ (TX3 b).2.1 := by decide +kernel
theorem tyX3_ok : ∀ k, k < 2 → parseFieldDescriptor (TX3 k).2.2.1 = some (tyX3 k) := by decide +kernel
abbrev cX3_init : ByteArray := prog_5_method_1_code
def yX3_init : MethodName := ⟨RX3, "<init>", "()V"⟩
def RX4 : String := "RoyalUrTable$Way"
def TX4 : u_T := fun k => match k with
  | _ => ("", "", "", false)
def tyX4 : Nat → FieldType := fun k => match k with
  | _ => .int
abbrev wsX40 : List Cond := u_ws RX4 TX4 0
theorem nmX4 : ∀ a, a < 0 → ∀ b, b < 0 → a ≠ b → (TX4 a).2.1 ≠ (TX4 b).2.1 := by decide +kernel
theorem tyX4_ok : ∀ k, k < 0 → parseFieldDescriptor (TX4 k).2.2.1 = some (tyX4 k) := by decide +kernel
abbrev cX4_isRosette : ByteArray := prog_6_method_2_code
def yX4_isRosette : MethodName := ⟨RX4, "isRosette", "(I)Z"⟩
abbrev cX4_isShared : ByteArray := prog_6_method_3_code
def yX4_isShared : MethodName := ⟨RX4, "isShared", "(I)Z"⟩
abbrev cX4_canEnter : ByteArray := prog_6_method_4_code
def yX4_canEnter : MethodName := ⟨RX4, "canEnter", "(IZZ)Z"⟩
def RX5 : String := "RoyalUrTable"
def TX5 : u_T := fun k => match k with
  | 0 => ("RoyalUrTable", "side0", "LRoyalUrTable$Side;", true)
  | 1 => ("RoyalUrTable", "side1", "LRoyalUrTable$Side;", true)
  | 2 => ("RoyalUrTable", "endings", "LRoyalUrTable$Endings;", true)
  | 3 => ("RoyalUrTable", "worthsBehind", "[I", true)
  | 4 => ("RoyalUrTable", "piecesOfEach", "I", false)
  | 5 => ("RoyalUrTable", "turn", "I", false)
  | 6 => ("RoyalUrTable", "marksTold", "I", false)
  | 7 => ("RoyalUrTable", "winner", "I", false)
  | _ => ("RoyalUrTable", "throwsTold", "I", false)
def tyX5 : Nat → FieldType := fun k => match k with
  | 0 => .object "RoyalUrTable$Side"
  | 1 => .object "RoyalUrTable$Side"
  | 2 => .object "RoyalUrTable$Endings"
  | 3 => .array .int
  | 4 => .int
  | 5 => .int
  | 6 => .int
  | 7 => .int
  | _ => .int
abbrev wsX50 : List Cond := u_ws RX5 TX5 9
theorem nmX5 : ∀ a, a < 9 → ∀ b, b < 9 → a ≠ b → (TX5 a).2.1 ≠ (TX5 b).2.1 := by decide +kernel
theorem tyX5_ok : ∀ k, k < 9 → parseFieldDescriptor (TX5 k).2.2.1 = some (tyX5 k) := by decide +kernel
abbrev cX5_init : ByteArray := prog_1_method_1_code
def yX5_init : MethodName := ⟨RX5, "<init>", "()V"⟩
abbrev cX5_begin : ByteArray := prog_1_method_2_code
def yX5_begin : MethodName := ⟨RX5, "begin", "(I)V"⟩
abbrev cX5_tell : ByteArray := prog_1_method_3_code
def yX5_tell : MethodName := ⟨RX5, "tell", "(I)I"⟩
abbrev cX5_move : ByteArray := prog_1_method_4_code
def yX5_move : MethodName := ⟨RX5, "move", "(I)I"⟩
abbrev cX5_turn : ByteArray := prog_1_method_5_code
def yX5_turn : MethodName := ⟨RX5, "turn", "()I"⟩
abbrev cX5_marks : ByteArray := prog_1_method_6_code
def yX5_marks : MethodName := ⟨RX5, "marks", "()I"⟩
abbrev cX5_winner : ByteArray := prog_1_method_7_code
def yX5_winner : MethodName := ⟨RX5, "winner", "()I"⟩
abbrev cX5_at : ByteArray := prog_1_method_8_code
def yX5_at : MethodName := ⟨RX5, "at", "(II)I"⟩
abbrev cX5_progress : ByteArray := prog_1_method_9_code
def yX5_progress : MethodName := ⟨RX5, "progress", "(I)I"⟩
abbrev cX5_captured : ByteArray := prog_1_method_10_code
def yX5_captured : MethodName := ⟨RX5, "captured", "(I)I"⟩
abbrev cX5_throwsTold : ByteArray := prog_1_method_11_code
def yX5_throwsTold : MethodName := ⟨RX5, "throwsTold", "()I"⟩
abbrev cX5_moves : ByteArray := prog_1_method_12_code
def yX5_moves : MethodName := ⟨RX5, "moves", "()I"⟩
abbrev cX5_moveAt : ByteArray := prog_1_method_13_code
def yX5_moveAt : MethodName := ⟨RX5, "moveAt", "(I)I"⟩
abbrev cX5_captures : ByteArray := prog_1_method_14_code
def yX5_captures : MethodName := ⟨RX5, "captures", "(I)Z"⟩
abbrev cX5_worth : ByteArray := prog_1_method_15_code
def yX5_worth : MethodName := ⟨RX5, "worth", "(I)I"⟩
abbrev cX5_chance : ByteArray := prog_1_method_16_code
def yX5_chance : MethodName := ⟨RX5, "chance", "(I)D"⟩
abbrev cX5_ranked : ByteArray := prog_1_method_17_code
def yX5_ranked : MethodName := ⟨RX5, "ranked", "(II)I"⟩
abbrev cX5_ending : ByteArray := prog_1_method_18_code
def yX5_ending : MethodName := ⟨RX5, "ending", "(III)I"⟩
abbrev cX5_endingByThrows : ByteArray := prog_1_method_19_code
def yX5_endingByThrows : MethodName := ⟨RX5, "endingByThrows", "(III)I"⟩
abbrev cX5_refuseOutside : ByteArray := prog_1_method_20_code
def yX5_refuseOutside : MethodName := ⟨RX5, "refuseOutside", "(III)V"⟩
abbrev cX5_refuseEnding : ByteArray := prog_1_method_21_code
def yX5_refuseEnding : MethodName := ⟨RX5, "refuseEnding", "(II)V"⟩
abbrev cX5_setUp : ByteArray := prog_1_method_22_code
def yX5_setUp : MethodName := ⟨RX5, "setUp", "(I)V"⟩
abbrev cX5_sideOf : ByteArray := prog_1_method_23_code
def yX5_sideOf : MethodName := ⟨RX5, "sideOf", "(I)LRoyalUrTable$Side;"⟩
abbrev cX5_canMoveFrom : ByteArray := prog_1_method_24_code
def yX5_canMoveFrom : MethodName := ⟨RX5, "canMoveFrom", "(I)Z"⟩
abbrev cX5_countMoves : ByteArray := prog_1_method_25_code
def yX5_countMoves : MethodName := ⟨RX5, "countMoves", "(I)I"⟩
abbrev cX5_leadOfTurn : ByteArray := prog_1_method_26_code
def yX5_leadOfTurn : MethodName := ⟨RX5, "leadOfTurn", "()I"⟩
abbrev cX5_worthForTurn : ByteArray := prog_1_method_27_code
def yX5_worthForTurn : MethodName := ⟨RX5, "worthForTurn", "(I)I"⟩
abbrev cX5_noteWorthsBehind : ByteArray := prog_1_method_28_code
def yX5_noteWorthsBehind : MethodName := ⟨RX5, "noteWorthsBehind", "(I)V"⟩
abbrev cX5_countBetter : ByteArray := prog_1_method_29_code
def yX5_countBetter : MethodName := ⟨RX5, "countBetter", "(II)I"⟩
abbrev cX5_worthToThrow : ByteArray := prog_1_method_30_code
def yX5_worthToThrow : MethodName := ⟨RX5, "worthToThrow", "(JJII)I"⟩
abbrev cX5_worthBehindThrow : ByteArray := prog_1_method_31_code
def yX5_worthBehindThrow : MethodName := ⟨RX5, "worthBehindThrow", "(JJIII)I"⟩
abbrev cX5_worthBehindMove : ByteArray := prog_1_method_32_code
def yX5_worthBehindMove : MethodName := ⟨RX5, "worthBehindMove", "(JJIIII)I"⟩
abbrev cX5_worthAtOnce : ByteArray := prog_1_method_33_code
def yX5_worthAtOnce : MethodName := ⟨RX5, "worthAtOnce", "(JJI)I"⟩
def RX6 : String := "RoyalUrTableModel"
def TX6 : u_T := fun k => match k with
  | 0 => ("RoyalUrTableModel", "thrown", "I", false)
  | 1 => ("RoyalUrTableModel", "pieces", "I", false)
  | 2 => ("RoyalUrTableModel", "side", "I", false)
  | 3 => ("RoyalUrTableModel", "told", "I", false)
  | 4 => ("RoyalUrTableModel", "won", "I", false)
  | 5 => ("RoyalUrTableModel", "count", "I", false)
  | 6 => ("RoyalUrTableModel", "lost", "[I", true)
  | 7 => ("RoyalUrTableModel", "at", "[I", true)
  | 8 => ("RoyalUrTableModel", "times", "[I", true)
  | 9 => ("RoyalUrTableModel", "table", "[I", true)
  | 10 => ("RoyalUrTableModel", "elder", "[I", true)
  | 11 => ("RoyalUrTableModel", "forty", "[I", true)
  | 12 => ("RoyalUrTableModel", "walk", "[I", true)
  | 13 => ("RoyalUrTableModel", "sides", "[I", true)
  | 14 => ("RoyalUrTableModel", "marks", "[I", true)
  | 15 => ("RoyalUrTableModel", "next", "[I", true)
  | 16 => ("RoyalUrTableModel", "best", "[I", true)
  | 17 => ("RoyalUrTableModel", "sums", "[J", true)
  | _ => ("RoyalUrTableModel", "behind", "[I", true)
def tyX6 : Nat → FieldType := fun k => match k with
  | 0 => .int
  | 1 => .int
  | 2 => .int
  | 3 => .int
  | 4 => .int
  | 5 => .int
  | 6 => .array .int
  | 7 => .array .int
  | 8 => .array .int
  | 9 => .array .int
  | 10 => .array .int
  | 11 => .array .int
  | 12 => .array .int
  | 13 => .array .int
  | 14 => .array .int
  | 15 => .array .int
  | 16 => .array .int
  | 17 => .array .long
  | _ => .array .int
abbrev wsX60 : List Cond := u_ws RX6 TX6 19
theorem nmX6 : ∀ a, a < 19 → ∀ b, b < 19 → a ≠ b → (TX6 a).2.1 ≠ (TX6 b).2.1 := by decide +kernel
theorem tyX6_ok : ∀ k, k < 19 → parseFieldDescriptor (TX6 k).2.2.1 = some (tyX6 k) := by decide +kernel
abbrev cX6_init : ByteArray := prog_8_method_1_code
def yX6_init : MethodName := ⟨RX6, "<init>", "()V"⟩
abbrev cX6_thrown : ByteArray := prog_8_method_2_code
def yX6_thrown : MethodName := ⟨RX6, "thrown", "()I"⟩
abbrev cX6_fails : ByteArray := prog_8_method_3_code
def yX6_fails : MethodName := ⟨RX6, "fails", "(I)I"⟩
abbrev cX6_in : ByteArray := prog_8_method_4_code
def yX6_in : MethodName := ⟨RX6, "in", "(III)Z"⟩
abbrev cX6_isShared : ByteArray := prog_8_method_5_code
def yX6_isShared : MethodName := ⟨RX6, "isShared", "(I)Z"⟩
abbrev cX6_isRosette : ByteArray := prog_8_method_6_code
def yX6_isRosette : MethodName := ⟨RX6, "isRosette", "(I)Z"⟩
abbrev cX6_behindThrow : ByteArray := prog_8_method_7_code
def yX6_behindThrow : MethodName := ⟨RX6, "behindThrow", "(III)I"⟩
abbrev cX6_layTable : ByteArray := prog_8_method_8_code
def yX6_layTable : MethodName := ⟨RX6, "layTable", "(I)V"⟩
abbrev cX6_ended : ByteArray := prog_8_method_9_code
def yX6_ended : MethodName := ⟨RX6, "ended", "(IIII)I"⟩
abbrev cX6_ending : ByteArray := prog_8_method_10_code
def yX6_ending : MethodName := ⟨RX6, "ending", "(III)I"⟩
abbrev cX6_endingByThrows : ByteArray := prog_8_method_11_code
def yX6_endingByThrows : MethodName := ⟨RX6, "endingByThrows", "(III)I"⟩
abbrev cX6_canMove : ByteArray := prog_8_method_12_code
def yX6_canMove : MethodName := ⟨RX6, "canMove", "([IIIII)Z"⟩
abbrev cX6_shifts : ByteArray := prog_8_method_13_code
def yX6_shifts : MethodName := ⟨RX6, "shifts", "([IIIII)I"⟩
abbrev cX6_progressOf : ByteArray := prog_8_method_14_code
def yX6_progressOf : MethodName := ⟨RX6, "progressOf", "([III)I"⟩
abbrev cX6_onlyOne : ByteArray := prog_8_method_15_code
def yX6_onlyOne : MethodName := ⟨RX6, "onlyOne", "([III)I"⟩
abbrev cX6_leaf : ByteArray := prog_8_method_16_code
def yX6_leaf : MethodName := ⟨RX6, "leaf", "(II)I"⟩
abbrev cX6_enters : ByteArray := prog_8_method_17_code
def yX6_enters : MethodName := ⟨RX6, "enters", "(II)V"⟩
abbrev cX6_copies : ByteArray := prog_8_method_18_code
def yX6_copies : MethodName := ⟨RX6, "copies", "(I)V"⟩
abbrev cX6_takes : ByteArray := prog_8_method_19_code
def yX6_takes : MethodName := ⟨RX6, "takes", "(III)V"⟩
abbrev cX6_goesOn : ByteArray := prog_8_method_20_code
def yX6_goesOn : MethodName := ⟨RX6, "goesOn", "(I)Z"⟩
abbrev cX6_worthOf : ByteArray := prog_8_method_21_code
def yX6_worthOf : MethodName := ⟨RX6, "worthOf", "(II)I"⟩
abbrev cX6_lays : ByteArray := prog_8_method_22_code
def yX6_lays : MethodName := ⟨RX6, "lays", "()V"⟩
abbrev cX6_layBehind : ByteArray := prog_8_method_23_code
def yX6_layBehind : MethodName := ⟨RX6, "layBehind", "(I)V"⟩
abbrev cX6_worthNow : ByteArray := prog_8_method_24_code
def yX6_worthNow : MethodName := ⟨RX6, "worthNow", "(I)I"⟩
abbrev cX6_starts : ByteArray := prog_8_method_25_code
def yX6_starts : MethodName := ⟨RX6, "starts", "(I)V"⟩
abbrev cX6_begin : ByteArray := prog_8_method_26_code
def yX6_begin : MethodName := ⟨RX6, "begin", "(I)V"⟩
abbrev cX6_countMoves : ByteArray := prog_8_method_27_code
def yX6_countMoves : MethodName := ⟨RX6, "countMoves", "(I)I"⟩
abbrev cX6_tell : ByteArray := prog_8_method_28_code
def yX6_tell : MethodName := ⟨RX6, "tell", "(I)I"⟩
abbrev cX6_move : ByteArray := prog_8_method_29_code
def yX6_move : MethodName := ⟨RX6, "move", "(I)I"⟩
abbrev cX6_turn : ByteArray := prog_8_method_30_code
def yX6_turn : MethodName := ⟨RX6, "turn", "()I"⟩
abbrev cX6_marks : ByteArray := prog_8_method_31_code
def yX6_marks : MethodName := ⟨RX6, "marks", "()I"⟩
abbrev cX6_winner : ByteArray := prog_8_method_32_code
def yX6_winner : MethodName := ⟨RX6, "winner", "()I"⟩
abbrev cX6_at : ByteArray := prog_8_method_33_code
def yX6_at : MethodName := ⟨RX6, "at", "(II)I"⟩
abbrev cX6_progress : ByteArray := prog_8_method_34_code
def yX6_progress : MethodName := ⟨RX6, "progress", "(I)I"⟩
abbrev cX6_captured : ByteArray := prog_8_method_35_code
def yX6_captured : MethodName := ⟨RX6, "captured", "(I)I"⟩
abbrev cX6_throwsTold : ByteArray := prog_8_method_36_code
def yX6_throwsTold : MethodName := ⟨RX6, "throwsTold", "()I"⟩
abbrev cX6_moves : ByteArray := prog_8_method_37_code
def yX6_moves : MethodName := ⟨RX6, "moves", "()I"⟩
abbrev cX6_moveAt : ByteArray := prog_8_method_38_code
def yX6_moveAt : MethodName := ⟨RX6, "moveAt", "(I)I"⟩
abbrev cX6_captures : ByteArray := prog_8_method_39_code
def yX6_captures : MethodName := ⟨RX6, "captures", "(I)Z"⟩
abbrev cX6_worth : ByteArray := prog_8_method_40_code
def yX6_worth : MethodName := ⟨RX6, "worth", "(I)I"⟩
abbrev cX6_chance : ByteArray := prog_8_method_41_code
def yX6_chance : MethodName := ⟨RX6, "chance", "(I)D"⟩
abbrev cX6_ranked : ByteArray := prog_8_method_42_code
def yX6_ranked : MethodName := ⟨RX6, "ranked", "(II)I"⟩
def RJ9 : String := "java/lang/Math"
def TJ9 : u_T := fun k => match k with
  | _ => ("", "", "", false)
def tyJ9 : Nat → FieldType := fun k => match k with
  | _ => .int
abbrev wsJ90 : List Cond := u_ws RJ9 TJ9 0
theorem nmJ9 : ∀ a, a < 0 → ∀ b, b < 0 → a ≠ b → (TJ9 a).2.1 ≠ (TJ9 b).2.1 := by decide +kernel
theorem tyJ9_ok : ∀ k, k < 0 → parseFieldDescriptor (TJ9 k).2.2.1 = some (tyJ9 k) := by decide +kernel
abbrev cJ9_max_7cf53 : ByteArray := prog_12_method_65_code
def yJ9_max_7cf53 : MethodName := ⟨RJ9, "max", "(II)I"⟩
abbrev cJ9_min_7cf53 : ByteArray := prog_12_method_69_code
def yJ9_min_7cf53 : MethodName := ⟨RJ9, "min", "(II)I"⟩
def RL : String := "RoyalUrTableLaw"
abbrev cL_begin : ByteArray := method_3_code
def yL_begin : MethodName := ⟨RL, "begin", "(LRoyalUrTable;I)I"⟩
abbrev cL_tell : ByteArray := method_4_code
def yL_tell : MethodName := ⟨RL, "tell", "(LRoyalUrTable;I[J)I"⟩
abbrev cL_move : ByteArray := method_5_code
def yL_move : MethodName := ⟨RL, "move", "(LRoyalUrTable;I[J)I"⟩
abbrev cL_at : ByteArray := method_6_code
def yL_at : MethodName := ⟨RL, "at", "(LRoyalUrTable;II[J)I"⟩
abbrev cL_progress : ByteArray := method_7_code
def yL_progress : MethodName := ⟨RL, "progress", "(LRoyalUrTable;I[J)I"⟩
abbrev cL_captured : ByteArray := method_8_code
def yL_captured : MethodName := ⟨RL, "captured", "(LRoyalUrTable;I[J)I"⟩
abbrev cL_captures : ByteArray := method_9_code
def yL_captures : MethodName := ⟨RL, "captures", "(LRoyalUrTable;I[J)I"⟩
abbrev cL_worth : ByteArray := method_10_code
def yL_worth : MethodName := ⟨RL, "worth", "(LRoyalUrTable;I[J)I"⟩
abbrev cL_chance : ByteArray := method_11_code
def yL_chance : MethodName := ⟨RL, "chance", "(LRoyalUrTable;I[D)I"⟩
abbrev cL_ranked : ByteArray := method_12_code
def yL_ranked : MethodName := ⟨RL, "ranked", "(LRoyalUrTable;II[J)I"⟩
abbrev cL_ending : ByteArray := method_13_code
def yL_ending : MethodName := ⟨RL, "ending", "(LRoyalUrTable;III[J)I"⟩
abbrev cL_endingByThrows : ByteArray := method_14_code
def yL_endingByThrows : MethodName := ⟨RL, "endingByThrows", "(LRoyalUrTable;III[J)I"⟩
abbrev cL_law : ByteArray := code
def yL_law : MethodName := ⟨RL, "law", "([I)Z"⟩
def wsX0_timesIn16 : List Cond := .code yX0_timesIn16 cX0_timesIn16 1 (some .int) :: ([.fieldLink RX0 7 "RoyalUrTable$Dice" "TIMES_IN_16" "[I"])
def wsX1_init : List Cond := .code yX1_init cX1_init 1 none :: ([.methodLink RX1 5 objectInit, .instanceMethod objectInit, .code objectInit ⟨#[0xb1]⟩ 1 none, .arrayClass .int, .fieldLink RX1 13 "RoyalUrTable$Endings" "worths" "[I"] ++ wsX10)
def wsX4_canEnter : List Cond := .code yX4_canEnter cX4_canEnter 3 (some .boolean) :: ([])
def wsX4_isShared : List Cond := .code yX4_isShared cX4_isShared 1 (some .boolean) :: ([])
def wsX4_isRosette : List Cond := .code yX4_isRosette cX4_isRosette 1 (some .boolean) :: ([])
def wsX1_held : List Cond := .code yX1_held cX1_held 5 (some .int) :: ([.constant RX1 31 (500000000), .fieldLink RX1 13 "RoyalUrTable$Endings" "worths" "[I"] ++ wsX10)
def wsX1_worthBehindThrow_r1 : List Cond := [Cond.constant RX1 56 (1000000000), Cond.methodLink RX1 52 yX4_canEnter, Cond.static yX4_canEnter, Cond.initialized RX4, Cond.code yX4_canEnter cX4_canEnter 3 (some .boolean), Cond.methodLink RX1 32 yX1_worthToThrow, Cond.instanceMethod yX1_worthToThrow, Cond.selects RX1 yX1_worthToThrow yX1_worthToThrow, Cond.initialized RX1, Cond.methodLink RX1 57 yX4_isShared, Cond.static yX4_isShared, Cond.code yX4_isShared cX4_isShared 1 (some .boolean), Cond.methodLink RX1 61 yX4_isRosette, Cond.static yX4_isRosette, Cond.code yX4_isRosette cX4_isRosette 1 (some .boolean), Cond.code yX1_worthToThrow cX1_worthToThrow 8 (some .int), Cond.constantLong RX1 50 (16), Cond.methodLink RX1 36 yX1_held, Cond.instanceMethod yX1_held, Cond.selects RX1 yX1_held yX1_held, Cond.code yX1_held cX1_held 5 (some .int), Cond.constant RX1 31 (500000000), Cond.fieldLink RX1 13 "RoyalUrTable$Endings" "worths" "[I", Cond.methodLink RX1 42 yX0_timesIn16]
def wsX1_worthBehindThrow_r2 : List Cond := [Cond.static yX0_timesIn16, Cond.initialized RX0, Cond.code yX0_timesIn16 cX0_timesIn16 1 (some .int), Cond.fieldLink RX0 7 "RoyalUrTable$Dice" "TIMES_IN_16" "[I", Cond.methodLink RX1 46 yX1_worthBehindThrow, Cond.instanceMethod yX1_worthBehindThrow, Cond.selects RX1 yX1_worthBehindThrow yX1_worthBehindThrow]
def wsX1_worthBehindThrow : List Cond := .code yX1_worthBehindThrow cX1_worthBehindThrow 8 (some .int) :: ((wsX1_worthBehindThrow_r1 ++ wsX1_worthBehindThrow_r2) ++ wsX10)
def wsX1_worthToThrow_r1 : List Cond := [Cond.constantLong RX1 50 (16), Cond.methodLink RX1 36 yX1_held, Cond.instanceMethod yX1_held, Cond.selects RX1 yX1_held yX1_held, Cond.initialized RX1, Cond.code yX1_held cX1_held 5 (some .int), Cond.constant RX1 31 (500000000), Cond.fieldLink RX1 13 "RoyalUrTable$Endings" "worths" "[I", Cond.methodLink RX1 42 yX0_timesIn16, Cond.static yX0_timesIn16, Cond.initialized RX0, Cond.code yX0_timesIn16 cX0_timesIn16 1 (some .int), Cond.fieldLink RX0 7 "RoyalUrTable$Dice" "TIMES_IN_16" "[I", Cond.methodLink RX1 46 yX1_worthBehindThrow, Cond.instanceMethod yX1_worthBehindThrow, Cond.selects RX1 yX1_worthBehindThrow yX1_worthBehindThrow, Cond.code yX1_worthBehindThrow cX1_worthBehindThrow 8 (some .int), Cond.constant RX1 56 (1000000000), Cond.methodLink RX1 52 yX4_canEnter, Cond.static yX4_canEnter, Cond.initialized RX4, Cond.code yX4_canEnter cX4_canEnter 3 (some .boolean), Cond.methodLink RX1 32 yX1_worthToThrow, Cond.instanceMethod yX1_worthToThrow]
def wsX1_worthToThrow_r2 : List Cond := [Cond.selects RX1 yX1_worthToThrow yX1_worthToThrow, Cond.methodLink RX1 57 yX4_isShared, Cond.static yX4_isShared, Cond.code yX4_isShared cX4_isShared 1 (some .boolean), Cond.methodLink RX1 61 yX4_isRosette, Cond.static yX4_isRosette, Cond.code yX4_isRosette cX4_isRosette 1 (some .boolean)]
def wsX1_worthToThrow : List Cond := .code yX1_worthToThrow cX1_worthToThrow 8 (some .int) :: ((wsX1_worthToThrow_r1 ++ wsX1_worthToThrow_r2) ++ wsX10)
def wsX1_fillRow_r1 : List Cond := [Cond.fieldLink RX1 13 "RoyalUrTable$Endings" "worths" "[I", Cond.methodLink RX1 32 yX1_worthToThrow, Cond.instanceMethod yX1_worthToThrow, Cond.selects RX1 yX1_worthToThrow yX1_worthToThrow, Cond.initialized RX1, Cond.code yX1_worthToThrow cX1_worthToThrow 8 (some .int), Cond.constantLong RX1 50 (16), Cond.methodLink RX1 36 yX1_held, Cond.instanceMethod yX1_held, Cond.selects RX1 yX1_held yX1_held, Cond.code yX1_held cX1_held 5 (some .int), Cond.constant RX1 31 (500000000), Cond.methodLink RX1 42 yX0_timesIn16, Cond.static yX0_timesIn16, Cond.initialized RX0, Cond.code yX0_timesIn16 cX0_timesIn16 1 (some .int), Cond.fieldLink RX0 7 "RoyalUrTable$Dice" "TIMES_IN_16" "[I", Cond.methodLink RX1 46 yX1_worthBehindThrow, Cond.instanceMethod yX1_worthBehindThrow, Cond.selects RX1 yX1_worthBehindThrow yX1_worthBehindThrow, Cond.code yX1_worthBehindThrow cX1_worthBehindThrow 8 (some .int), Cond.constant RX1 56 (1000000000), Cond.methodLink RX1 52 yX4_canEnter, Cond.static yX4_canEnter]
def wsX1_fillRow_r2 : List Cond := [Cond.initialized RX4, Cond.code yX4_canEnter cX4_canEnter 3 (some .boolean), Cond.methodLink RX1 57 yX4_isShared, Cond.static yX4_isShared, Cond.code yX4_isShared cX4_isShared 1 (some .boolean), Cond.methodLink RX1 61 yX4_isRosette, Cond.static yX4_isRosette, Cond.code yX4_isRosette cX4_isRosette 1 (some .boolean)]
def wsX1_fillRow : List Cond := .code yX1_fillRow cX1_fillRow 5 none :: ((wsX1_fillRow_r1 ++ wsX1_fillRow_r2) ++ wsX10)
def wsX1_fillUpTo_r1 : List Cond := [Cond.methodLink RX1 17 Lib.Math.min.name, Cond.static Lib.Math.min.name, Cond.initialized "java/lang/Math", Cond.code Lib.Math.min.name Lib.Math.min.code 2 (some .int), Cond.fieldLink RX1 23 "RoyalUrTable$Endings" "roundsHeld" "I", Cond.methodLink RX1 27 yX1_fillRow, Cond.instanceMethod yX1_fillRow, Cond.selects RX1 yX1_fillRow yX1_fillRow, Cond.initialized RX1, Cond.code yX1_fillRow cX1_fillRow 5 none, Cond.fieldLink RX1 13 "RoyalUrTable$Endings" "worths" "[I", Cond.methodLink RX1 32 yX1_worthToThrow, Cond.instanceMethod yX1_worthToThrow, Cond.selects RX1 yX1_worthToThrow yX1_worthToThrow, Cond.code yX1_worthToThrow cX1_worthToThrow 8 (some .int), Cond.constantLong RX1 50 (16), Cond.methodLink RX1 36 yX1_held, Cond.instanceMethod yX1_held, Cond.selects RX1 yX1_held yX1_held, Cond.code yX1_held cX1_held 5 (some .int), Cond.constant RX1 31 (500000000), Cond.methodLink RX1 42 yX0_timesIn16, Cond.static yX0_timesIn16, Cond.initialized RX0]
def wsX1_fillUpTo_r2 : List Cond := [Cond.code yX0_timesIn16 cX0_timesIn16 1 (some .int), Cond.fieldLink RX0 7 "RoyalUrTable$Dice" "TIMES_IN_16" "[I", Cond.methodLink RX1 46 yX1_worthBehindThrow, Cond.instanceMethod yX1_worthBehindThrow, Cond.selects RX1 yX1_worthBehindThrow yX1_worthBehindThrow, Cond.code yX1_worthBehindThrow cX1_worthBehindThrow 8 (some .int), Cond.constant RX1 56 (1000000000), Cond.methodLink RX1 52 yX4_canEnter, Cond.static yX4_canEnter, Cond.initialized RX4, Cond.code yX4_canEnter cX4_canEnter 3 (some .boolean), Cond.methodLink RX1 57 yX4_isShared, Cond.static yX4_isShared, Cond.code yX4_isShared cX4_isShared 1 (some .boolean), Cond.methodLink RX1 61 yX4_isRosette, Cond.static yX4_isRosette, Cond.code yX4_isRosette cX4_isRosette 1 (some .boolean)]
def wsX1_fillUpTo : List Cond := .code yX1_fillUpTo cX1_fillUpTo 4 none :: ((wsX1_fillUpTo_r1 ++ wsX1_fillUpTo_r2) ++ wsX10)
def wsX1_playedOut_r1 : List Cond := [Cond.methodLink RX1 32 yX1_worthToThrow, Cond.instanceMethod yX1_worthToThrow, Cond.selects RX1 yX1_worthToThrow yX1_worthToThrow, Cond.initialized RX1, Cond.code yX1_worthToThrow cX1_worthToThrow 8 (some .int), Cond.constantLong RX1 50 (16), Cond.methodLink RX1 36 yX1_held, Cond.instanceMethod yX1_held, Cond.selects RX1 yX1_held yX1_held, Cond.code yX1_held cX1_held 5 (some .int), Cond.constant RX1 31 (500000000), Cond.fieldLink RX1 13 "RoyalUrTable$Endings" "worths" "[I", Cond.methodLink RX1 42 yX0_timesIn16, Cond.static yX0_timesIn16, Cond.initialized RX0, Cond.code yX0_timesIn16 cX0_timesIn16 1 (some .int), Cond.fieldLink RX0 7 "RoyalUrTable$Dice" "TIMES_IN_16" "[I", Cond.methodLink RX1 46 yX1_worthBehindThrow, Cond.instanceMethod yX1_worthBehindThrow, Cond.selects RX1 yX1_worthBehindThrow yX1_worthBehindThrow, Cond.code yX1_worthBehindThrow cX1_worthBehindThrow 8 (some .int), Cond.constant RX1 56 (1000000000), Cond.methodLink RX1 52 yX4_canEnter, Cond.static yX4_canEnter]
def wsX1_playedOut_r2 : List Cond := [Cond.initialized RX4, Cond.code yX4_canEnter cX4_canEnter 3 (some .boolean), Cond.methodLink RX1 57 yX4_isShared, Cond.static yX4_isShared, Cond.code yX4_isShared cX4_isShared 1 (some .boolean), Cond.methodLink RX1 61 yX4_isRosette, Cond.static yX4_isRosette, Cond.code yX4_isRosette cX4_isRosette 1 (some .boolean)]
def wsX1_playedOut : List Cond := .code yX1_playedOut cX1_playedOut 4 (some .int) :: ((wsX1_playedOut_r1 ++ wsX1_playedOut_r2) ++ wsX10)
def wsX2_allAtStart : List Cond := .code yX2_allAtStart cX2_allAtStart 1 (some .long) :: ([])
def wsX2_countAt : List Cond := .code yX2_countAt cX2_countAt 3 (some .int) :: ([])
def wsX2_shifted : List Cond := .code yX2_shifted cX2_shifted 4 (some .long) :: ([])
def wsX2_isAllHome : List Cond := .code yX2_isAllHome cX2_isAllHome 2 (some .boolean) :: ([.constantLong RX2 11 (1152921504606846975)])
def wsX2_sumOfPlaces : List Cond := .code yX2_sumOfPlaces cX2_sumOfPlaces 4 (some .int) :: ([.methodLink RX2 13 yX2_countAt, .static yX2_countAt, .initialized RX2, .code yX2_countAt cX2_countAt 3 (some .int)])
def wsX2_firstPlace : List Cond := .code yX2_firstPlace cX2_firstPlace 3 (some .int) :: ([.methodLink RX2 13 yX2_countAt, .static yX2_countAt, .initialized RX2, .code yX2_countAt cX2_countAt 3 (some .int)])
def wsX2_canMove : List Cond := .code yX2_canMove cX2_canMove 7 (some .boolean) :: ([.methodLink RX2 13 yX2_countAt, .static yX2_countAt, .initialized RX2, .code yX2_countAt cX2_countAt 3 (some .int), .methodLink RX2 17 yX4_canEnter, .static yX4_canEnter, .initialized RX4, .code yX4_canEnter cX4_canEnter 3 (some .boolean)])
def wsX2_canBeTaken : List Cond := .code yX2_canBeTaken cX2_canBeTaken 3 (some .boolean) :: ([.methodLink RX2 21 yX4_isShared, .static yX4_isShared, .initialized RX4, .code yX4_isShared cX4_isShared 1 (some .boolean), .methodLink RX2 13 yX2_countAt, .static yX2_countAt, .initialized RX2, .code yX2_countAt cX2_countAt 3 (some .int)])
def wsX3_init : List Cond := .code yX3_init cX3_init 1 none :: ([.methodLink RX3 1 objectInit, .instanceMethod objectInit, .code objectInit ⟨#[0xb1]⟩ 1 none])
def wsX5_setUp : List Cond := .code yX5_setUp cX5_setUp 2 none :: ([.fieldLink RX5 135 "RoyalUrTable" "piecesOfEach" "I", .fieldLink RX5 10 "RoyalUrTable" "side0" "LRoyalUrTable$Side;", .fieldLink RX5 70 "RoyalUrTable$Side" "layout" "J", .fieldLink RX5 16 "RoyalUrTable" "side1" "LRoyalUrTable$Side;", .fieldLink RX5 84 "RoyalUrTable$Side" "lost" "I", .fieldLink RX5 59 "RoyalUrTable" "turn" "I", .fieldLink RX5 46 "RoyalUrTable" "marksTold" "I", .fieldLink RX5 42 "RoyalUrTable" "winner" "I", .fieldLink RX5 52 "RoyalUrTable" "throwsTold" "I", .methodLink RX5 138 yX2_allAtStart, .static yX2_allAtStart, .initialized RX2, .code yX2_allAtStart cX2_allAtStart 1 (some .long)] ++ wsX50 ++ wsX30)
def wsX5_init_r1 : List Cond := [Cond.methodLink RX5 1 objectInit, Cond.instanceMethod objectInit, Cond.code objectInit ⟨#[0xb1]⟩ 1 none, Cond.classLink RX5 7 RX3, Cond.instantiable RX3 2, Cond.initialized RX3, Cond.fieldLink RX5 10 "RoyalUrTable" "side0" "LRoyalUrTable$Side;", Cond.fieldLink RX5 16 "RoyalUrTable" "side1" "LRoyalUrTable$Side;", Cond.classLink RX5 19 RX1, Cond.instantiable RX1 2, Cond.initialized RX1, Cond.fieldLink RX5 22 "RoyalUrTable" "endings" "LRoyalUrTable$Endings;", Cond.arrayClass .int, Cond.fieldLink RX5 28 "RoyalUrTable" "worthsBehind" "[I", Cond.instanceMethod yX3_init, Cond.code yX3_init cX3_init 1 none, Cond.methodLink RX3 1 objectInit, Cond.methodLink RX5 21 yX1_init, Cond.instanceMethod yX1_init, Cond.code yX1_init cX1_init 1 none, Cond.methodLink RX1 5 objectInit, Cond.fieldLink RX1 13 "RoyalUrTable$Endings" "worths" "[I", Cond.methodLink RX5 32 yX5_setUp, Cond.instanceMethod yX5_setUp]
def wsX5_init_r2 : List Cond := [Cond.selects RX5 yX5_setUp yX5_setUp, Cond.initialized RX5, Cond.code yX5_setUp cX5_setUp 2 none, Cond.fieldLink RX5 135 "RoyalUrTable" "piecesOfEach" "I", Cond.fieldLink RX5 70 "RoyalUrTable$Side" "layout" "J", Cond.fieldLink RX5 84 "RoyalUrTable$Side" "lost" "I", Cond.fieldLink RX5 59 "RoyalUrTable" "turn" "I", Cond.fieldLink RX5 46 "RoyalUrTable" "marksTold" "I", Cond.fieldLink RX5 42 "RoyalUrTable" "winner" "I", Cond.fieldLink RX5 52 "RoyalUrTable" "throwsTold" "I", Cond.methodLink RX5 138 yX2_allAtStart, Cond.static yX2_allAtStart, Cond.initialized RX2, Cond.code yX2_allAtStart cX2_allAtStart 1 (some .long)]
def wsX5_init : List Cond := .code yX5_init cX5_init 1 none :: ((wsX5_init_r1 ++ wsX5_init_r2) ++ wsX30 ++ wsX50 ++ wsX10)
def wsX5_refuseOutside : List Cond := .code yX5_refuseOutside cX5_refuseOutside 3 none :: ([.classLink RX5 108 "java/lang/IllegalArgumentException", .initialized "java/lang/IllegalArgumentException"] ++ (vx_at0 RX5 110 "java/lang/IllegalArgumentException" ["java/lang/RuntimeException", "java/lang/Exception"]).filter goodWord)
def wsX5_begin : List Cond := .code yX5_begin cX5_begin 2 none :: ([.methodLink RX5 36 yX5_refuseOutside, .static yX5_refuseOutside, .initialized RX5, .code yX5_refuseOutside cX5_refuseOutside 3 none, .classLink RX5 108 "java/lang/IllegalArgumentException", .initialized "java/lang/IllegalArgumentException", .methodLink RX5 32 yX5_setUp, .instanceMethod yX5_setUp, .selects RX5 yX5_setUp yX5_setUp, .code yX5_setUp cX5_setUp 2 none, .fieldLink RX5 135 "RoyalUrTable" "piecesOfEach" "I", .fieldLink RX5 10 "RoyalUrTable" "side0" "LRoyalUrTable$Side;", .fieldLink RX5 70 "RoyalUrTable$Side" "layout" "J", .fieldLink RX5 16 "RoyalUrTable" "side1" "LRoyalUrTable$Side;", .fieldLink RX5 84 "RoyalUrTable$Side" "lost" "I", .fieldLink RX5 59 "RoyalUrTable" "turn" "I", .fieldLink RX5 46 "RoyalUrTable" "marksTold" "I", .fieldLink RX5 42 "RoyalUrTable" "winner" "I", .fieldLink RX5 52 "RoyalUrTable" "throwsTold" "I", .methodLink RX5 138 yX2_allAtStart, .static yX2_allAtStart, .initialized RX2, .code yX2_allAtStart cX2_allAtStart 1 (some .long)] ++ wsX50 ++ wsX30 ++ (vx_at0 RX5 110 "java/lang/IllegalArgumentException" ["java/lang/RuntimeException", "java/lang/Exception"]).filter goodWord)
def wsX5_sideOf : List Cond := .code yX5_sideOf cX5_sideOf 2 (some (.object "RoyalUrTable$Side")) :: ([.fieldLink RX5 10 "RoyalUrTable" "side0" "LRoyalUrTable$Side;", .fieldLink RX5 16 "RoyalUrTable" "side1" "LRoyalUrTable$Side;"] ++ wsX50)
def wsX5_countMoves : List Cond := .code yX5_countMoves cX5_countMoves 8 (some .int) :: ([.fieldLink RX5 59 "RoyalUrTable" "turn" "I", .fieldLink RX5 70 "RoyalUrTable$Side" "layout" "J", .methodLink RX5 66 yX5_sideOf, .instanceMethod yX5_sideOf, .selects RX5 yX5_sideOf yX5_sideOf, .initialized RX5, .code yX5_sideOf cX5_sideOf 2 (some (.object "RoyalUrTable$Side")), .fieldLink RX5 10 "RoyalUrTable" "side0" "LRoyalUrTable$Side;", .fieldLink RX5 16 "RoyalUrTable" "side1" "LRoyalUrTable$Side;", .methodLink RX5 142 yX2_canMove, .static yX2_canMove, .initialized RX2, .code yX2_canMove cX2_canMove 7 (some .boolean), .methodLink RX2 13 yX2_countAt, .static yX2_countAt, .code yX2_countAt cX2_countAt 3 (some .int), .methodLink RX2 17 yX4_canEnter, .static yX4_canEnter, .initialized RX4, .code yX4_canEnter cX4_canEnter 3 (some .boolean)] ++ wsX50 ++ wsX30)
def wsX5_tell_r1 : List Cond := [Cond.classLink RX5 49 "java/lang/IllegalStateException", Cond.initialized "java/lang/IllegalStateException", Cond.fieldLink RX5 42 "RoyalUrTable" "winner" "I", Cond.fieldLink RX5 46 "RoyalUrTable" "marksTold" "I", Cond.fieldLink RX5 52 "RoyalUrTable" "throwsTold" "I", Cond.fieldLink RX5 59 "RoyalUrTable" "turn" "I", Cond.methodLink RX5 36 yX5_refuseOutside, Cond.static yX5_refuseOutside, Cond.initialized RX5, Cond.code yX5_refuseOutside cX5_refuseOutside 3 none, Cond.classLink RX5 108 "java/lang/IllegalArgumentException", Cond.initialized "java/lang/IllegalArgumentException", Cond.methodLink RX5 55 yX5_countMoves, Cond.instanceMethod yX5_countMoves, Cond.selects RX5 yX5_countMoves yX5_countMoves, Cond.code yX5_countMoves cX5_countMoves 8 (some .int), Cond.fieldLink RX5 70 "RoyalUrTable$Side" "layout" "J", Cond.methodLink RX5 66 yX5_sideOf, Cond.instanceMethod yX5_sideOf, Cond.selects RX5 yX5_sideOf yX5_sideOf, Cond.code yX5_sideOf cX5_sideOf 2 (some (.object "RoyalUrTable$Side")), Cond.fieldLink RX5 10 "RoyalUrTable" "side0" "LRoyalUrTable$Side;", Cond.fieldLink RX5 16 "RoyalUrTable" "side1" "LRoyalUrTable$Side;", Cond.methodLink RX5 142 yX2_canMove]
def wsX5_tell_r2 : List Cond := [Cond.static yX2_canMove, Cond.initialized RX2, Cond.code yX2_canMove cX2_canMove 7 (some .boolean), Cond.methodLink RX2 13 yX2_countAt, Cond.static yX2_countAt, Cond.code yX2_countAt cX2_countAt 3 (some .int), Cond.methodLink RX2 17 yX4_canEnter, Cond.static yX4_canEnter, Cond.initialized RX4, Cond.code yX4_canEnter cX4_canEnter 3 (some .boolean)]
def wsX5_tell : List Cond := .code yX5_tell cX5_tell 3 (some .int) :: ((wsX5_tell_r1 ++ wsX5_tell_r2) ++ wsX50 ++ wsX30 ++ (vx_at0 RX5 51 "java/lang/IllegalStateException" ["java/lang/RuntimeException", "java/lang/Exception"]).filter goodWord ++ (vx_at0 RX5 110 "java/lang/IllegalArgumentException" ["java/lang/RuntimeException", "java/lang/Exception"]).filter goodWord)
def wsX5_canMoveFrom : List Cond := .code yX5_canMoveFrom cX5_canMoveFrom 2 (some .boolean) :: ([.fieldLink RX5 59 "RoyalUrTable" "turn" "I", .fieldLink RX5 70 "RoyalUrTable$Side" "layout" "J", .fieldLink RX5 46 "RoyalUrTable" "marksTold" "I", .methodLink RX5 66 yX5_sideOf, .instanceMethod yX5_sideOf, .selects RX5 yX5_sideOf yX5_sideOf, .initialized RX5, .code yX5_sideOf cX5_sideOf 2 (some (.object "RoyalUrTable$Side")), .fieldLink RX5 10 "RoyalUrTable" "side0" "LRoyalUrTable$Side;", .fieldLink RX5 16 "RoyalUrTable" "side1" "LRoyalUrTable$Side;", .methodLink RX5 142 yX2_canMove, .static yX2_canMove, .initialized RX2, .code yX2_canMove cX2_canMove 7 (some .boolean), .methodLink RX2 13 yX2_countAt, .static yX2_countAt, .code yX2_countAt cX2_countAt 3 (some .int), .methodLink RX2 17 yX4_canEnter, .static yX4_canEnter, .initialized RX4, .code yX4_canEnter cX4_canEnter 3 (some .boolean)] ++ wsX50 ++ wsX30)
def wsX5_move_r1 : List Cond := [Cond.classLink RX5 49 "java/lang/IllegalStateException", Cond.initialized "java/lang/IllegalStateException", Cond.fieldLink RX5 46 "RoyalUrTable" "marksTold" "I", Cond.fieldLink RX5 59 "RoyalUrTable" "turn" "I", Cond.fieldLink RX5 70 "RoyalUrTable$Side" "layout" "J", Cond.fieldLink RX5 84 "RoyalUrTable$Side" "lost" "I", Cond.fieldLink RX5 42 "RoyalUrTable" "winner" "I", Cond.methodLink RX5 36 yX5_refuseOutside, Cond.static yX5_refuseOutside, Cond.initialized RX5, Cond.code yX5_refuseOutside cX5_refuseOutside 3 none, Cond.classLink RX5 108 "java/lang/IllegalArgumentException", Cond.initialized "java/lang/IllegalArgumentException", Cond.methodLink RX5 62 yX5_canMoveFrom, Cond.instanceMethod yX5_canMoveFrom, Cond.selects RX5 yX5_canMoveFrom yX5_canMoveFrom, Cond.code yX5_canMoveFrom cX5_canMoveFrom 2 (some .boolean), Cond.methodLink RX5 66 yX5_sideOf, Cond.instanceMethod yX5_sideOf, Cond.selects RX5 yX5_sideOf yX5_sideOf, Cond.code yX5_sideOf cX5_sideOf 2 (some (.object "RoyalUrTable$Side")), Cond.fieldLink RX5 10 "RoyalUrTable" "side0" "LRoyalUrTable$Side;", Cond.fieldLink RX5 16 "RoyalUrTable" "side1" "LRoyalUrTable$Side;", Cond.methodLink RX5 142 yX2_canMove]
def wsX5_move_r2 : List Cond := [Cond.static yX2_canMove, Cond.initialized RX2, Cond.code yX2_canMove cX2_canMove 7 (some .boolean), Cond.methodLink RX2 13 yX2_countAt, Cond.static yX2_countAt, Cond.code yX2_countAt cX2_countAt 3 (some .int), Cond.methodLink RX2 17 yX4_canEnter, Cond.static yX4_canEnter, Cond.initialized RX4, Cond.code yX4_canEnter cX4_canEnter 3 (some .boolean), Cond.methodLink RX5 74 yX2_shifted, Cond.static yX2_shifted, Cond.code yX2_shifted cX2_shifted 4 (some .long), Cond.methodLink RX5 80 yX2_canBeTaken, Cond.static yX2_canBeTaken, Cond.code yX2_canBeTaken cX2_canBeTaken 3 (some .boolean), Cond.methodLink RX2 21 yX4_isShared, Cond.static yX4_isShared, Cond.code yX4_isShared cX4_isShared 1 (some .boolean), Cond.methodLink RX5 87 yX2_isAllHome, Cond.static yX2_isAllHome, Cond.code yX2_isAllHome cX2_isAllHome 2 (some .boolean), Cond.constantLong RX2 11 (1152921504606846975), Cond.methodLink RX5 91 yX4_isRosette]
def wsX5_move_r3 : List Cond := [Cond.static yX4_isRosette, Cond.code yX4_isRosette cX4_isRosette 1 (some .boolean)]
def wsX5_move : List Cond := .code yX5_move cX5_move 5 (some .int) :: ((wsX5_move_r1 ++ (wsX5_move_r2 ++ wsX5_move_r3)) ++ wsX50 ++ wsX30 ++ (vx_at0 RX5 51 "java/lang/IllegalStateException" ["java/lang/RuntimeException", "java/lang/Exception"]).filter goodWord ++ (vx_at0 RX5 110 "java/lang/IllegalArgumentException" ["java/lang/RuntimeException", "java/lang/Exception"]).filter goodWord)
def wsX5_turn : List Cond := .code yX5_turn cX5_turn 1 (some .int) :: ([.fieldLink RX5 59 "RoyalUrTable" "turn" "I"] ++ wsX50)
def wsX5_marks : List Cond := .code yX5_marks cX5_marks 1 (some .int) :: ([.fieldLink RX5 46 "RoyalUrTable" "marksTold" "I"] ++ wsX50)
def wsX5_winner : List Cond := .code yX5_winner cX5_winner 1 (some .int) :: ([.fieldLink RX5 42 "RoyalUrTable" "winner" "I"] ++ wsX50)
def wsX5_at : List Cond := .code yX5_at cX5_at 3 (some .int) :: ([.fieldLink RX5 70 "RoyalUrTable$Side" "layout" "J", .methodLink RX5 36 yX5_refuseOutside, .static yX5_refuseOutside, .initialized RX5, .code yX5_refuseOutside cX5_refuseOutside 3 none, .classLink RX5 108 "java/lang/IllegalArgumentException", .initialized "java/lang/IllegalArgumentException", .methodLink RX5 66 yX5_sideOf, .instanceMethod yX5_sideOf, .selects RX5 yX5_sideOf yX5_sideOf, .code yX5_sideOf cX5_sideOf 2 (some (.object "RoyalUrTable$Side")), .fieldLink RX5 10 "RoyalUrTable" "side0" "LRoyalUrTable$Side;", .fieldLink RX5 16 "RoyalUrTable" "side1" "LRoyalUrTable$Side;", .methodLink RX5 94 yX2_countAt, .static yX2_countAt, .initialized RX2, .code yX2_countAt cX2_countAt 3 (some .int)] ++ wsX30 ++ wsX50 ++ (vx_at0 RX5 110 "java/lang/IllegalArgumentException" ["java/lang/RuntimeException", "java/lang/Exception"]).filter goodWord)
def wsX5_progress : List Cond := .code yX5_progress cX5_progress 2 (some .int) :: ([.fieldLink RX5 70 "RoyalUrTable$Side" "layout" "J", .methodLink RX5 36 yX5_refuseOutside, .static yX5_refuseOutside, .initialized RX5, .code yX5_refuseOutside cX5_refuseOutside 3 none, .classLink RX5 108 "java/lang/IllegalArgumentException", .initialized "java/lang/IllegalArgumentException", .methodLink RX5 66 yX5_sideOf, .instanceMethod yX5_sideOf, .selects RX5 yX5_sideOf yX5_sideOf, .code yX5_sideOf cX5_sideOf 2 (some (.object "RoyalUrTable$Side")), .fieldLink RX5 10 "RoyalUrTable" "side0" "LRoyalUrTable$Side;", .fieldLink RX5 16 "RoyalUrTable" "side1" "LRoyalUrTable$Side;", .methodLink RX5 98 yX2_sumOfPlaces, .static yX2_sumOfPlaces, .initialized RX2, .code yX2_sumOfPlaces cX2_sumOfPlaces 4 (some .int), .methodLink RX2 13 yX2_countAt, .static yX2_countAt, .code yX2_countAt cX2_countAt 3 (some .int)] ++ wsX30 ++ wsX50 ++ (vx_at0 RX5 110 "java/lang/IllegalArgumentException" ["java/lang/RuntimeException", "java/lang/Exception"]).filter goodWord)
def wsX5_captured : List Cond := .code yX5_captured cX5_captured 2 (some .int) :: ([.fieldLink RX5 84 "RoyalUrTable$Side" "lost" "I", .methodLink RX5 36 yX5_refuseOutside, .static yX5_refuseOutside, .initialized RX5, .code yX5_refuseOutside cX5_refuseOutside 3 none, .classLink RX5 108 "java/lang/IllegalArgumentException", .initialized "java/lang/IllegalArgumentException", .methodLink RX5 66 yX5_sideOf, .instanceMethod yX5_sideOf, .selects RX5 yX5_sideOf yX5_sideOf, .code yX5_sideOf cX5_sideOf 2 (some (.object "RoyalUrTable$Side")), .fieldLink RX5 10 "RoyalUrTable" "side0" "LRoyalUrTable$Side;", .fieldLink RX5 16 "RoyalUrTable" "side1" "LRoyalUrTable$Side;"] ++ wsX30 ++ wsX50 ++ (vx_at0 RX5 110 "java/lang/IllegalArgumentException" ["java/lang/RuntimeException", "java/lang/Exception"]).filter goodWord)
def wsX5_throwsTold : List Cond := .code yX5_throwsTold cX5_throwsTold 1 (some .int) :: ([.fieldLink RX5 52 "RoyalUrTable" "throwsTold" "I"] ++ wsX50)
def wsX5_moves_r1 : List Cond := [Cond.fieldLink RX5 46 "RoyalUrTable" "marksTold" "I", Cond.methodLink RX5 55 yX5_countMoves, Cond.instanceMethod yX5_countMoves, Cond.selects RX5 yX5_countMoves yX5_countMoves, Cond.initialized RX5, Cond.code yX5_countMoves cX5_countMoves 8 (some .int), Cond.fieldLink RX5 59 "RoyalUrTable" "turn" "I", Cond.fieldLink RX5 70 "RoyalUrTable$Side" "layout" "J", Cond.methodLink RX5 66 yX5_sideOf, Cond.instanceMethod yX5_sideOf, Cond.selects RX5 yX5_sideOf yX5_sideOf, Cond.code yX5_sideOf cX5_sideOf 2 (some (.object "RoyalUrTable$Side")), Cond.fieldLink RX5 10 "RoyalUrTable" "side0" "LRoyalUrTable$Side;", Cond.fieldLink RX5 16 "RoyalUrTable" "side1" "LRoyalUrTable$Side;", Cond.methodLink RX5 142 yX2_canMove, Cond.static yX2_canMove, Cond.initialized RX2, Cond.code yX2_canMove cX2_canMove 7 (some .boolean), Cond.methodLink RX2 13 yX2_countAt, Cond.static yX2_countAt, Cond.code yX2_countAt cX2_countAt 3 (some .int), Cond.methodLink RX2 17 yX4_canEnter, Cond.static yX4_canEnter, Cond.initialized RX4]
def wsX5_moves_r2 : List Cond := [Cond.code yX4_canEnter cX4_canEnter 3 (some .boolean)]
def wsX5_moves : List Cond := .code yX5_moves cX5_moves 1 (some .int) :: ((wsX5_moves_r1 ++ wsX5_moves_r2) ++ wsX50 ++ wsX30)
def wsX5_moveAt_r1 : List Cond := [Cond.methodLink RX5 62 yX5_canMoveFrom, Cond.instanceMethod yX5_canMoveFrom, Cond.selects RX5 yX5_canMoveFrom yX5_canMoveFrom, Cond.initialized RX5, Cond.code yX5_canMoveFrom cX5_canMoveFrom 2 (some .boolean), Cond.fieldLink RX5 59 "RoyalUrTable" "turn" "I", Cond.fieldLink RX5 70 "RoyalUrTable$Side" "layout" "J", Cond.fieldLink RX5 46 "RoyalUrTable" "marksTold" "I", Cond.methodLink RX5 66 yX5_sideOf, Cond.instanceMethod yX5_sideOf, Cond.selects RX5 yX5_sideOf yX5_sideOf, Cond.code yX5_sideOf cX5_sideOf 2 (some (.object "RoyalUrTable$Side")), Cond.fieldLink RX5 10 "RoyalUrTable" "side0" "LRoyalUrTable$Side;", Cond.fieldLink RX5 16 "RoyalUrTable" "side1" "LRoyalUrTable$Side;", Cond.methodLink RX5 142 yX2_canMove, Cond.static yX2_canMove, Cond.initialized RX2, Cond.code yX2_canMove cX2_canMove 7 (some .boolean), Cond.methodLink RX2 13 yX2_countAt, Cond.static yX2_countAt, Cond.code yX2_countAt cX2_countAt 3 (some .int), Cond.methodLink RX2 17 yX4_canEnter, Cond.static yX4_canEnter, Cond.initialized RX4]
def wsX5_moveAt_r2 : List Cond := [Cond.code yX4_canEnter cX4_canEnter 3 (some .boolean)]
def wsX5_moveAt : List Cond := .code yX5_moveAt cX5_moveAt 4 (some .int) :: ((wsX5_moveAt_r1 ++ wsX5_moveAt_r2) ++ wsX50 ++ wsX30)
def wsX5_captures_r1 : List Cond := [Cond.fieldLink RX5 59 "RoyalUrTable" "turn" "I", Cond.fieldLink RX5 70 "RoyalUrTable$Side" "layout" "J", Cond.fieldLink RX5 46 "RoyalUrTable" "marksTold" "I", Cond.methodLink RX5 36 yX5_refuseOutside, Cond.static yX5_refuseOutside, Cond.initialized RX5, Cond.code yX5_refuseOutside cX5_refuseOutside 3 none, Cond.classLink RX5 108 "java/lang/IllegalArgumentException", Cond.initialized "java/lang/IllegalArgumentException", Cond.methodLink RX5 62 yX5_canMoveFrom, Cond.instanceMethod yX5_canMoveFrom, Cond.selects RX5 yX5_canMoveFrom yX5_canMoveFrom, Cond.code yX5_canMoveFrom cX5_canMoveFrom 2 (some .boolean), Cond.methodLink RX5 66 yX5_sideOf, Cond.instanceMethod yX5_sideOf, Cond.selects RX5 yX5_sideOf yX5_sideOf, Cond.code yX5_sideOf cX5_sideOf 2 (some (.object "RoyalUrTable$Side")), Cond.fieldLink RX5 10 "RoyalUrTable" "side0" "LRoyalUrTable$Side;", Cond.fieldLink RX5 16 "RoyalUrTable" "side1" "LRoyalUrTable$Side;", Cond.methodLink RX5 142 yX2_canMove, Cond.static yX2_canMove, Cond.initialized RX2, Cond.code yX2_canMove cX2_canMove 7 (some .boolean), Cond.methodLink RX2 13 yX2_countAt]
def wsX5_captures_r2 : List Cond := [Cond.static yX2_countAt, Cond.code yX2_countAt cX2_countAt 3 (some .int), Cond.methodLink RX2 17 yX4_canEnter, Cond.static yX4_canEnter, Cond.initialized RX4, Cond.code yX4_canEnter cX4_canEnter 3 (some .boolean), Cond.methodLink RX5 80 yX2_canBeTaken, Cond.static yX2_canBeTaken, Cond.code yX2_canBeTaken cX2_canBeTaken 3 (some .boolean), Cond.methodLink RX2 21 yX4_isShared, Cond.static yX4_isShared, Cond.code yX4_isShared cX4_isShared 1 (some .boolean)]
def wsX5_captures : List Cond := .code yX5_captures cX5_captures 2 (some .boolean) :: ((wsX5_captures_r1 ++ wsX5_captures_r2) ++ wsX50 ++ wsX30 ++ (vx_at0 RX5 110 "java/lang/IllegalArgumentException" ["java/lang/RuntimeException", "java/lang/Exception"]).filter goodWord)
def wsX5_leadOfTurn : List Cond := .code yX5_leadOfTurn cX5_leadOfTurn 1 (some .int) :: ([.fieldLink RX5 59 "RoyalUrTable" "turn" "I", .fieldLink RX5 70 "RoyalUrTable$Side" "layout" "J", .methodLink RX5 66 yX5_sideOf, .instanceMethod yX5_sideOf, .selects RX5 yX5_sideOf yX5_sideOf, .initialized RX5, .code yX5_sideOf cX5_sideOf 2 (some (.object "RoyalUrTable$Side")), .fieldLink RX5 10 "RoyalUrTable" "side0" "LRoyalUrTable$Side;", .fieldLink RX5 16 "RoyalUrTable" "side1" "LRoyalUrTable$Side;", .methodLink RX5 98 yX2_sumOfPlaces, .static yX2_sumOfPlaces, .initialized RX2, .code yX2_sumOfPlaces cX2_sumOfPlaces 4 (some .int), .methodLink RX2 13 yX2_countAt, .static yX2_countAt, .code yX2_countAt cX2_countAt 3 (some .int)] ++ wsX50 ++ wsX30)
def wsX5_worthAtOnce_r1 : List Cond := [Cond.fieldLink RX5 135 "RoyalUrTable" "piecesOfEach" "I", Cond.fieldLink RX5 22 "RoyalUrTable" "endings" "LRoyalUrTable$Endings;", Cond.constant RX5 179 (500000000), Cond.constant RX5 180 (4000000), Cond.methodLink RX5 171 Lib.Math.max.name, Cond.static Lib.Math.max.name, Cond.initialized "java/lang/Math", Cond.code Lib.Math.max.name Lib.Math.max.code 2 (some .int), Cond.constant RX5 181 (999999999), Cond.methodLink RX5 182 Lib.Math.min.name, Cond.static Lib.Math.min.name, Cond.code Lib.Math.min.name Lib.Math.min.code 2 (some .int), Cond.methodLink RX5 94 yX2_countAt, Cond.static yX2_countAt, Cond.initialized RX2, Cond.code yX2_countAt cX2_countAt 3 (some .int), Cond.methodLink RX5 176 yX2_firstPlace, Cond.static yX2_firstPlace, Cond.code yX2_firstPlace cX2_firstPlace 3 (some .int), Cond.methodLink RX2 13 yX2_countAt, Cond.methodLink RX5 125 yX1_held, Cond.instanceMethod yX1_held, Cond.selects RX1 yX1_held yX1_held, Cond.initialized RX1]
def wsX5_worthAtOnce_r2 : List Cond := [Cond.code yX1_held cX1_held 5 (some .int), Cond.constant RX1 31 (500000000), Cond.fieldLink RX1 13 "RoyalUrTable$Endings" "worths" "[I"]
def wsX5_worthAtOnce : List Cond := .code yX5_worthAtOnce cX5_worthAtOnce 7 (some .int) :: ((wsX5_worthAtOnce_r1 ++ wsX5_worthAtOnce_r2) ++ wsX50 ++ wsX10)
def wsX5_worthBehindMove_r1 : List Cond := [Cond.constant RX5 105 (1000000000), Cond.methodLink RX5 74 yX2_shifted, Cond.static yX2_shifted, Cond.initialized RX2, Cond.code yX2_shifted cX2_shifted 4 (some .long), Cond.methodLink RX5 87 yX2_isAllHome, Cond.static yX2_isAllHome, Cond.code yX2_isAllHome cX2_isAllHome 2 (some .boolean), Cond.constantLong RX2 11 (1152921504606846975), Cond.methodLink RX5 80 yX2_canBeTaken, Cond.static yX2_canBeTaken, Cond.code yX2_canBeTaken cX2_canBeTaken 3 (some .boolean), Cond.methodLink RX2 21 yX4_isShared, Cond.static yX4_isShared, Cond.initialized RX4, Cond.code yX4_isShared cX4_isShared 1 (some .boolean), Cond.methodLink RX2 13 yX2_countAt, Cond.static yX2_countAt, Cond.code yX2_countAt cX2_countAt 3 (some .int), Cond.methodLink RX5 91 yX4_isRosette, Cond.static yX4_isRosette, Cond.code yX4_isRosette cX4_isRosette 1 (some .boolean), Cond.methodLink RX5 150 yX5_worthToThrow, Cond.instanceMethod yX5_worthToThrow]
def wsX5_worthBehindMove_r2 : List Cond := [Cond.selects RX5 yX5_worthToThrow yX5_worthToThrow, Cond.initialized RX5, Cond.code yX5_worthBehindThrow cX5_worthBehindThrow 10 (some .int), Cond.methodLink RX5 171 Lib.Math.max.name, Cond.static Lib.Math.max.name, Cond.initialized "java/lang/Math", Cond.code Lib.Math.max.name Lib.Math.max.code 2 (some .int), Cond.methodLink RX5 142 yX2_canMove, Cond.static yX2_canMove, Cond.code yX2_canMove cX2_canMove 7 (some .boolean), Cond.methodLink RX2 17 yX4_canEnter, Cond.static yX4_canEnter, Cond.code yX4_canEnter cX4_canEnter 3 (some .boolean), Cond.methodLink RX5 158 yX5_worthBehindMove, Cond.instanceMethod yX5_worthBehindMove, Cond.selects RX5 yX5_worthBehindMove yX5_worthBehindMove, Cond.code yX5_worthToThrow cX5_worthToThrow 10 (some .int), Cond.constantLong RX5 169 (16), Cond.methodLink RX5 162 yX5_worthAtOnce, Cond.instanceMethod yX5_worthAtOnce, Cond.selects RX5 yX5_worthAtOnce yX5_worthAtOnce, Cond.code yX5_worthAtOnce cX5_worthAtOnce 7 (some .int), Cond.fieldLink RX5 135 "RoyalUrTable" "piecesOfEach" "I", Cond.fieldLink RX5 22 "RoyalUrTable" "endings" "LRoyalUrTable$Endings;"]
def wsX5_worthBehindMove_r3 : List Cond := [Cond.constant RX5 179 (500000000), Cond.constant RX5 180 (4000000), Cond.constant RX5 181 (999999999), Cond.methodLink RX5 182 Lib.Math.min.name, Cond.static Lib.Math.min.name, Cond.code Lib.Math.min.name Lib.Math.min.code 2 (some .int), Cond.methodLink RX5 94 yX2_countAt, Cond.methodLink RX5 176 yX2_firstPlace, Cond.static yX2_firstPlace, Cond.code yX2_firstPlace cX2_firstPlace 3 (some .int), Cond.methodLink RX5 125 yX1_held, Cond.instanceMethod yX1_held, Cond.selects RX1 yX1_held yX1_held, Cond.initialized RX1, Cond.code yX1_held cX1_held 5 (some .int), Cond.constant RX1 31 (500000000), Cond.fieldLink RX1 13 "RoyalUrTable$Endings" "worths" "[I", Cond.methodLink RX5 166 yX0_timesIn16, Cond.static yX0_timesIn16, Cond.initialized RX0, Cond.code yX0_timesIn16 cX0_timesIn16 1 (some .int), Cond.fieldLink RX0 7 "RoyalUrTable$Dice" "TIMES_IN_16" "[I", Cond.methodLink RX5 154 yX5_worthBehindThrow, Cond.instanceMethod yX5_worthBehindThrow]
def wsX5_worthBehindMove_r4 : List Cond := [Cond.selects RX5 yX5_worthBehindThrow yX5_worthBehindThrow]
def wsX5_worthBehindMove : List Cond := .code yX5_worthBehindMove cX5_worthBehindMove 15 (some .int) :: ((wsX5_worthBehindMove_r1 ++ (wsX5_worthBehindMove_r2 ++ (wsX5_worthBehindMove_r3 ++ wsX5_worthBehindMove_r4))) ++ wsX50 ++ wsX10)
def wsX5_worthBehindThrow_r1 : List Cond := [Cond.methodLink RX5 171 Lib.Math.max.name, Cond.static Lib.Math.max.name, Cond.initialized "java/lang/Math", Cond.code Lib.Math.max.name Lib.Math.max.code 2 (some .int), Cond.constant RX5 105 (1000000000), Cond.methodLink RX5 142 yX2_canMove, Cond.static yX2_canMove, Cond.initialized RX2, Cond.code yX2_canMove cX2_canMove 7 (some .boolean), Cond.methodLink RX2 13 yX2_countAt, Cond.static yX2_countAt, Cond.code yX2_countAt cX2_countAt 3 (some .int), Cond.methodLink RX2 17 yX4_canEnter, Cond.static yX4_canEnter, Cond.initialized RX4, Cond.code yX4_canEnter cX4_canEnter 3 (some .boolean), Cond.methodLink RX5 158 yX5_worthBehindMove, Cond.instanceMethod yX5_worthBehindMove, Cond.selects RX5 yX5_worthBehindMove yX5_worthBehindMove, Cond.initialized RX5, Cond.methodLink RX5 150 yX5_worthToThrow, Cond.instanceMethod yX5_worthToThrow, Cond.selects RX5 yX5_worthToThrow yX5_worthToThrow, Cond.code yX5_worthBehindMove cX5_worthBehindMove 15 (some .int)]
def wsX5_worthBehindThrow_r2 : List Cond := [Cond.methodLink RX5 74 yX2_shifted, Cond.static yX2_shifted, Cond.code yX2_shifted cX2_shifted 4 (some .long), Cond.methodLink RX5 87 yX2_isAllHome, Cond.static yX2_isAllHome, Cond.code yX2_isAllHome cX2_isAllHome 2 (some .boolean), Cond.constantLong RX2 11 (1152921504606846975), Cond.methodLink RX5 80 yX2_canBeTaken, Cond.static yX2_canBeTaken, Cond.code yX2_canBeTaken cX2_canBeTaken 3 (some .boolean), Cond.methodLink RX2 21 yX4_isShared, Cond.static yX4_isShared, Cond.code yX4_isShared cX4_isShared 1 (some .boolean), Cond.methodLink RX5 91 yX4_isRosette, Cond.static yX4_isRosette, Cond.code yX4_isRosette cX4_isRosette 1 (some .boolean), Cond.code yX5_worthToThrow cX5_worthToThrow 10 (some .int), Cond.constantLong RX5 169 (16), Cond.methodLink RX5 162 yX5_worthAtOnce, Cond.instanceMethod yX5_worthAtOnce, Cond.selects RX5 yX5_worthAtOnce yX5_worthAtOnce, Cond.code yX5_worthAtOnce cX5_worthAtOnce 7 (some .int), Cond.fieldLink RX5 135 "RoyalUrTable" "piecesOfEach" "I", Cond.fieldLink RX5 22 "RoyalUrTable" "endings" "LRoyalUrTable$Endings;"]
def wsX5_worthBehindThrow_r3 : List Cond := [Cond.constant RX5 179 (500000000), Cond.constant RX5 180 (4000000), Cond.constant RX5 181 (999999999), Cond.methodLink RX5 182 Lib.Math.min.name, Cond.static Lib.Math.min.name, Cond.code Lib.Math.min.name Lib.Math.min.code 2 (some .int), Cond.methodLink RX5 94 yX2_countAt, Cond.methodLink RX5 176 yX2_firstPlace, Cond.static yX2_firstPlace, Cond.code yX2_firstPlace cX2_firstPlace 3 (some .int), Cond.methodLink RX5 125 yX1_held, Cond.instanceMethod yX1_held, Cond.selects RX1 yX1_held yX1_held, Cond.initialized RX1, Cond.code yX1_held cX1_held 5 (some .int), Cond.constant RX1 31 (500000000), Cond.fieldLink RX1 13 "RoyalUrTable$Endings" "worths" "[I", Cond.methodLink RX5 166 yX0_timesIn16, Cond.static yX0_timesIn16, Cond.initialized RX0, Cond.code yX0_timesIn16 cX0_timesIn16 1 (some .int), Cond.fieldLink RX0 7 "RoyalUrTable$Dice" "TIMES_IN_16" "[I", Cond.methodLink RX5 154 yX5_worthBehindThrow, Cond.instanceMethod yX5_worthBehindThrow]
def wsX5_worthBehindThrow_r4 : List Cond := [Cond.selects RX5 yX5_worthBehindThrow yX5_worthBehindThrow]
def wsX5_worthBehindThrow : List Cond := .code yX5_worthBehindThrow cX5_worthBehindThrow 10 (some .int) :: ((wsX5_worthBehindThrow_r1 ++ (wsX5_worthBehindThrow_r2 ++ (wsX5_worthBehindThrow_r3 ++ wsX5_worthBehindThrow_r4))) ++ wsX50 ++ wsX10)
def wsX5_worthToThrow_r1 : List Cond := [Cond.constantLong RX5 169 (16), Cond.methodLink RX5 162 yX5_worthAtOnce, Cond.instanceMethod yX5_worthAtOnce, Cond.selects RX5 yX5_worthAtOnce yX5_worthAtOnce, Cond.initialized RX5, Cond.code yX5_worthAtOnce cX5_worthAtOnce 7 (some .int), Cond.fieldLink RX5 135 "RoyalUrTable" "piecesOfEach" "I", Cond.fieldLink RX5 22 "RoyalUrTable" "endings" "LRoyalUrTable$Endings;", Cond.constant RX5 179 (500000000), Cond.constant RX5 180 (4000000), Cond.methodLink RX5 171 Lib.Math.max.name, Cond.static Lib.Math.max.name, Cond.initialized "java/lang/Math", Cond.code Lib.Math.max.name Lib.Math.max.code 2 (some .int), Cond.constant RX5 181 (999999999), Cond.methodLink RX5 182 Lib.Math.min.name, Cond.static Lib.Math.min.name, Cond.code Lib.Math.min.name Lib.Math.min.code 2 (some .int), Cond.methodLink RX5 94 yX2_countAt, Cond.static yX2_countAt, Cond.initialized RX2, Cond.code yX2_countAt cX2_countAt 3 (some .int), Cond.methodLink RX5 176 yX2_firstPlace, Cond.static yX2_firstPlace]
def wsX5_worthToThrow_r2 : List Cond := [Cond.code yX2_firstPlace cX2_firstPlace 3 (some .int), Cond.methodLink RX2 13 yX2_countAt, Cond.methodLink RX5 125 yX1_held, Cond.instanceMethod yX1_held, Cond.selects RX1 yX1_held yX1_held, Cond.initialized RX1, Cond.code yX1_held cX1_held 5 (some .int), Cond.constant RX1 31 (500000000), Cond.fieldLink RX1 13 "RoyalUrTable$Endings" "worths" "[I", Cond.methodLink RX5 166 yX0_timesIn16, Cond.static yX0_timesIn16, Cond.initialized RX0, Cond.code yX0_timesIn16 cX0_timesIn16 1 (some .int), Cond.fieldLink RX0 7 "RoyalUrTable$Dice" "TIMES_IN_16" "[I", Cond.methodLink RX5 154 yX5_worthBehindThrow, Cond.instanceMethod yX5_worthBehindThrow, Cond.selects RX5 yX5_worthBehindThrow yX5_worthBehindThrow, Cond.code yX5_worthBehindMove cX5_worthBehindMove 15 (some .int), Cond.constant RX5 105 (1000000000), Cond.methodLink RX5 74 yX2_shifted, Cond.static yX2_shifted, Cond.code yX2_shifted cX2_shifted 4 (some .long), Cond.methodLink RX5 87 yX2_isAllHome, Cond.static yX2_isAllHome]
def wsX5_worthToThrow_r3 : List Cond := [Cond.code yX2_isAllHome cX2_isAllHome 2 (some .boolean), Cond.constantLong RX2 11 (1152921504606846975), Cond.methodLink RX5 80 yX2_canBeTaken, Cond.static yX2_canBeTaken, Cond.code yX2_canBeTaken cX2_canBeTaken 3 (some .boolean), Cond.methodLink RX2 21 yX4_isShared, Cond.static yX4_isShared, Cond.initialized RX4, Cond.code yX4_isShared cX4_isShared 1 (some .boolean), Cond.methodLink RX5 91 yX4_isRosette, Cond.static yX4_isRosette, Cond.code yX4_isRosette cX4_isRosette 1 (some .boolean), Cond.methodLink RX5 150 yX5_worthToThrow, Cond.instanceMethod yX5_worthToThrow, Cond.selects RX5 yX5_worthToThrow yX5_worthToThrow, Cond.code yX5_worthBehindThrow cX5_worthBehindThrow 10 (some .int), Cond.methodLink RX5 142 yX2_canMove, Cond.static yX2_canMove, Cond.code yX2_canMove cX2_canMove 7 (some .boolean), Cond.methodLink RX2 17 yX4_canEnter, Cond.static yX4_canEnter, Cond.code yX4_canEnter cX4_canEnter 3 (some .boolean), Cond.methodLink RX5 158 yX5_worthBehindMove, Cond.instanceMethod yX5_worthBehindMove]
def wsX5_worthToThrow_r4 : List Cond := [Cond.selects RX5 yX5_worthBehindMove yX5_worthBehindMove]
def wsX5_worthToThrow : List Cond := .code yX5_worthToThrow cX5_worthToThrow 10 (some .int) :: ((wsX5_worthToThrow_r1 ++ (wsX5_worthToThrow_r2 ++ (wsX5_worthToThrow_r3 ++ wsX5_worthToThrow_r4))) ++ wsX50 ++ wsX10)
def wsX5_worthForTurn_r1 : List Cond := [Cond.fieldLink RX5 42 "RoyalUrTable" "winner" "I", Cond.fieldLink RX5 59 "RoyalUrTable" "turn" "I", Cond.constant RX5 105 (1000000000), Cond.fieldLink RX5 22 "RoyalUrTable" "endings" "LRoyalUrTable$Endings;", Cond.fieldLink RX5 70 "RoyalUrTable$Side" "layout" "J", Cond.fieldLink RX5 46 "RoyalUrTable" "marksTold" "I", Cond.methodLink RX5 122 yX1_fillUpTo, Cond.instanceMethod yX1_fillUpTo, Cond.selects RX1 yX1_fillUpTo yX1_fillUpTo, Cond.initialized RX1, Cond.code yX1_fillUpTo cX1_fillUpTo 4 none, Cond.methodLink RX1 17 Lib.Math.min.name, Cond.static Lib.Math.min.name, Cond.initialized "java/lang/Math", Cond.code Lib.Math.min.name Lib.Math.min.code 2 (some .int), Cond.fieldLink RX1 23 "RoyalUrTable$Endings" "roundsHeld" "I", Cond.methodLink RX1 27 yX1_fillRow, Cond.instanceMethod yX1_fillRow, Cond.selects RX1 yX1_fillRow yX1_fillRow, Cond.code yX1_fillRow cX1_fillRow 5 none, Cond.fieldLink RX1 13 "RoyalUrTable$Endings" "worths" "[I", Cond.methodLink RX1 32 yX1_worthToThrow, Cond.instanceMethod yX1_worthToThrow, Cond.selects RX1 yX1_worthToThrow yX1_worthToThrow]
def wsX5_worthForTurn_r2 : List Cond := [Cond.code yX1_worthToThrow cX1_worthToThrow 8 (some .int), Cond.constantLong RX1 50 (16), Cond.methodLink RX1 36 yX1_held, Cond.instanceMethod yX1_held, Cond.selects RX1 yX1_held yX1_held, Cond.code yX1_held cX1_held 5 (some .int), Cond.constant RX1 31 (500000000), Cond.methodLink RX1 42 yX0_timesIn16, Cond.static yX0_timesIn16, Cond.initialized RX0, Cond.code yX0_timesIn16 cX0_timesIn16 1 (some .int), Cond.fieldLink RX0 7 "RoyalUrTable$Dice" "TIMES_IN_16" "[I", Cond.methodLink RX1 46 yX1_worthBehindThrow, Cond.instanceMethod yX1_worthBehindThrow, Cond.selects RX1 yX1_worthBehindThrow yX1_worthBehindThrow, Cond.code yX1_worthBehindThrow cX1_worthBehindThrow 8 (some .int), Cond.constant RX1 56 (1000000000), Cond.methodLink RX1 52 yX4_canEnter, Cond.static yX4_canEnter, Cond.initialized RX4, Cond.code yX4_canEnter cX4_canEnter 3 (some .boolean), Cond.methodLink RX1 57 yX4_isShared, Cond.static yX4_isShared, Cond.code yX4_isShared cX4_isShared 1 (some .boolean)]
def wsX5_worthForTurn_r3 : List Cond := [Cond.methodLink RX1 61 yX4_isRosette, Cond.static yX4_isRosette, Cond.code yX4_isRosette cX4_isRosette 1 (some .boolean), Cond.methodLink RX5 66 yX5_sideOf, Cond.instanceMethod yX5_sideOf, Cond.selects RX5 yX5_sideOf yX5_sideOf, Cond.initialized RX5, Cond.code yX5_sideOf cX5_sideOf 2 (some (.object "RoyalUrTable$Side")), Cond.fieldLink RX5 10 "RoyalUrTable" "side0" "LRoyalUrTable$Side;", Cond.fieldLink RX5 16 "RoyalUrTable" "side1" "LRoyalUrTable$Side;", Cond.methodLink RX5 146 yX5_leadOfTurn, Cond.instanceMethod yX5_leadOfTurn, Cond.selects RX5 yX5_leadOfTurn yX5_leadOfTurn, Cond.code yX5_leadOfTurn cX5_leadOfTurn 1 (some .int), Cond.methodLink RX5 98 yX2_sumOfPlaces, Cond.static yX2_sumOfPlaces, Cond.initialized RX2, Cond.code yX2_sumOfPlaces cX2_sumOfPlaces 4 (some .int), Cond.methodLink RX2 13 yX2_countAt, Cond.static yX2_countAt, Cond.code yX2_countAt cX2_countAt 3 (some .int), Cond.methodLink RX5 150 yX5_worthToThrow, Cond.instanceMethod yX5_worthToThrow, Cond.selects RX5 yX5_worthToThrow yX5_worthToThrow]
def wsX5_worthForTurn_r4 : List Cond := [Cond.code yX5_worthToThrow cX5_worthToThrow 10 (some .int), Cond.constantLong RX5 169 (16), Cond.methodLink RX5 162 yX5_worthAtOnce, Cond.instanceMethod yX5_worthAtOnce, Cond.selects RX5 yX5_worthAtOnce yX5_worthAtOnce, Cond.code yX5_worthAtOnce cX5_worthAtOnce 7 (some .int), Cond.fieldLink RX5 135 "RoyalUrTable" "piecesOfEach" "I", Cond.constant RX5 179 (500000000), Cond.constant RX5 180 (4000000), Cond.methodLink RX5 171 Lib.Math.max.name, Cond.static Lib.Math.max.name, Cond.code Lib.Math.max.name Lib.Math.max.code 2 (some .int), Cond.constant RX5 181 (999999999), Cond.methodLink RX5 182 Lib.Math.min.name, Cond.methodLink RX5 94 yX2_countAt, Cond.methodLink RX5 176 yX2_firstPlace, Cond.static yX2_firstPlace, Cond.code yX2_firstPlace cX2_firstPlace 3 (some .int), Cond.methodLink RX5 125 yX1_held, Cond.methodLink RX5 166 yX0_timesIn16, Cond.methodLink RX5 154 yX5_worthBehindThrow, Cond.instanceMethod yX5_worthBehindThrow, Cond.selects RX5 yX5_worthBehindThrow yX5_worthBehindThrow, Cond.code yX5_worthBehindMove cX5_worthBehindMove 15 (some .int)]
def wsX5_worthForTurn_r5 : List Cond := [Cond.methodLink RX5 74 yX2_shifted, Cond.static yX2_shifted, Cond.code yX2_shifted cX2_shifted 4 (some .long), Cond.methodLink RX5 87 yX2_isAllHome, Cond.static yX2_isAllHome, Cond.code yX2_isAllHome cX2_isAllHome 2 (some .boolean), Cond.constantLong RX2 11 (1152921504606846975), Cond.methodLink RX5 80 yX2_canBeTaken, Cond.static yX2_canBeTaken, Cond.code yX2_canBeTaken cX2_canBeTaken 3 (some .boolean), Cond.methodLink RX2 21 yX4_isShared, Cond.methodLink RX5 91 yX4_isRosette, Cond.code yX5_worthBehindThrow cX5_worthBehindThrow 10 (some .int), Cond.methodLink RX5 142 yX2_canMove, Cond.static yX2_canMove, Cond.code yX2_canMove cX2_canMove 7 (some .boolean), Cond.methodLink RX2 17 yX4_canEnter, Cond.methodLink RX5 158 yX5_worthBehindMove, Cond.instanceMethod yX5_worthBehindMove, Cond.selects RX5 yX5_worthBehindMove yX5_worthBehindMove]
def wsX5_worthForTurn : List Cond := .code yX5_worthForTurn cX5_worthForTurn 6 (some .int) :: ((wsX5_worthForTurn_r1 ++ (wsX5_worthForTurn_r2 ++ (wsX5_worthForTurn_r3 ++ (wsX5_worthForTurn_r4 ++ wsX5_worthForTurn_r5)))) ++ wsX50 ++ wsX30 ++ wsX10)
def wsX5_worth_r1 : List Cond := [Cond.fieldLink RX5 59 "RoyalUrTable" "turn" "I", Cond.constant RX5 105 (1000000000), Cond.methodLink RX5 36 yX5_refuseOutside, Cond.static yX5_refuseOutside, Cond.initialized RX5, Cond.code yX5_refuseOutside cX5_refuseOutside 3 none, Cond.classLink RX5 108 "java/lang/IllegalArgumentException", Cond.initialized "java/lang/IllegalArgumentException", Cond.methodLink RX5 102 yX5_worthForTurn, Cond.instanceMethod yX5_worthForTurn, Cond.selects RX5 yX5_worthForTurn yX5_worthForTurn, Cond.code yX5_worthForTurn cX5_worthForTurn 6 (some .int), Cond.fieldLink RX5 42 "RoyalUrTable" "winner" "I", Cond.fieldLink RX5 22 "RoyalUrTable" "endings" "LRoyalUrTable$Endings;", Cond.fieldLink RX5 70 "RoyalUrTable$Side" "layout" "J", Cond.fieldLink RX5 46 "RoyalUrTable" "marksTold" "I", Cond.methodLink RX5 122 yX1_fillUpTo, Cond.instanceMethod yX1_fillUpTo, Cond.selects RX1 yX1_fillUpTo yX1_fillUpTo, Cond.initialized RX1, Cond.code yX1_fillUpTo cX1_fillUpTo 4 none, Cond.methodLink RX1 17 Lib.Math.min.name, Cond.static Lib.Math.min.name, Cond.initialized "java/lang/Math"]
def wsX5_worth_r2 : List Cond := [Cond.code Lib.Math.min.name Lib.Math.min.code 2 (some .int), Cond.fieldLink RX1 23 "RoyalUrTable$Endings" "roundsHeld" "I", Cond.methodLink RX1 27 yX1_fillRow, Cond.instanceMethod yX1_fillRow, Cond.selects RX1 yX1_fillRow yX1_fillRow, Cond.code yX1_fillRow cX1_fillRow 5 none, Cond.fieldLink RX1 13 "RoyalUrTable$Endings" "worths" "[I", Cond.methodLink RX1 32 yX1_worthToThrow, Cond.instanceMethod yX1_worthToThrow, Cond.selects RX1 yX1_worthToThrow yX1_worthToThrow, Cond.code yX1_worthToThrow cX1_worthToThrow 8 (some .int), Cond.constantLong RX1 50 (16), Cond.methodLink RX1 36 yX1_held, Cond.instanceMethod yX1_held, Cond.selects RX1 yX1_held yX1_held, Cond.code yX1_held cX1_held 5 (some .int), Cond.constant RX1 31 (500000000), Cond.methodLink RX1 42 yX0_timesIn16, Cond.static yX0_timesIn16, Cond.initialized RX0, Cond.code yX0_timesIn16 cX0_timesIn16 1 (some .int), Cond.fieldLink RX0 7 "RoyalUrTable$Dice" "TIMES_IN_16" "[I", Cond.methodLink RX1 46 yX1_worthBehindThrow, Cond.instanceMethod yX1_worthBehindThrow]
def wsX5_worth_r3 : List Cond := [Cond.selects RX1 yX1_worthBehindThrow yX1_worthBehindThrow, Cond.code yX1_worthBehindThrow cX1_worthBehindThrow 8 (some .int), Cond.constant RX1 56 (1000000000), Cond.methodLink RX1 52 yX4_canEnter, Cond.static yX4_canEnter, Cond.initialized RX4, Cond.code yX4_canEnter cX4_canEnter 3 (some .boolean), Cond.methodLink RX1 57 yX4_isShared, Cond.static yX4_isShared, Cond.code yX4_isShared cX4_isShared 1 (some .boolean), Cond.methodLink RX1 61 yX4_isRosette, Cond.static yX4_isRosette, Cond.code yX4_isRosette cX4_isRosette 1 (some .boolean), Cond.methodLink RX5 66 yX5_sideOf, Cond.instanceMethod yX5_sideOf, Cond.selects RX5 yX5_sideOf yX5_sideOf, Cond.code yX5_sideOf cX5_sideOf 2 (some (.object "RoyalUrTable$Side")), Cond.fieldLink RX5 10 "RoyalUrTable" "side0" "LRoyalUrTable$Side;", Cond.fieldLink RX5 16 "RoyalUrTable" "side1" "LRoyalUrTable$Side;", Cond.methodLink RX5 146 yX5_leadOfTurn, Cond.instanceMethod yX5_leadOfTurn, Cond.selects RX5 yX5_leadOfTurn yX5_leadOfTurn, Cond.code yX5_leadOfTurn cX5_leadOfTurn 1 (some .int), Cond.methodLink RX5 98 yX2_sumOfPlaces]
def wsX5_worth_r4 : List Cond := [Cond.static yX2_sumOfPlaces, Cond.initialized RX2, Cond.code yX2_sumOfPlaces cX2_sumOfPlaces 4 (some .int), Cond.methodLink RX2 13 yX2_countAt, Cond.static yX2_countAt, Cond.code yX2_countAt cX2_countAt 3 (some .int), Cond.methodLink RX5 150 yX5_worthToThrow, Cond.instanceMethod yX5_worthToThrow, Cond.selects RX5 yX5_worthToThrow yX5_worthToThrow, Cond.code yX5_worthToThrow cX5_worthToThrow 10 (some .int), Cond.constantLong RX5 169 (16), Cond.methodLink RX5 162 yX5_worthAtOnce, Cond.instanceMethod yX5_worthAtOnce, Cond.selects RX5 yX5_worthAtOnce yX5_worthAtOnce, Cond.code yX5_worthAtOnce cX5_worthAtOnce 7 (some .int), Cond.fieldLink RX5 135 "RoyalUrTable" "piecesOfEach" "I", Cond.constant RX5 179 (500000000), Cond.constant RX5 180 (4000000), Cond.methodLink RX5 171 Lib.Math.max.name, Cond.static Lib.Math.max.name, Cond.code Lib.Math.max.name Lib.Math.max.code 2 (some .int), Cond.constant RX5 181 (999999999), Cond.methodLink RX5 182 Lib.Math.min.name, Cond.methodLink RX5 94 yX2_countAt]
def wsX5_worth_r5 : List Cond := [Cond.methodLink RX5 176 yX2_firstPlace, Cond.static yX2_firstPlace, Cond.code yX2_firstPlace cX2_firstPlace 3 (some .int), Cond.methodLink RX5 125 yX1_held, Cond.methodLink RX5 166 yX0_timesIn16, Cond.methodLink RX5 154 yX5_worthBehindThrow, Cond.instanceMethod yX5_worthBehindThrow, Cond.selects RX5 yX5_worthBehindThrow yX5_worthBehindThrow, Cond.code yX5_worthBehindMove cX5_worthBehindMove 15 (some .int), Cond.methodLink RX5 74 yX2_shifted, Cond.static yX2_shifted, Cond.code yX2_shifted cX2_shifted 4 (some .long), Cond.methodLink RX5 87 yX2_isAllHome, Cond.static yX2_isAllHome, Cond.code yX2_isAllHome cX2_isAllHome 2 (some .boolean), Cond.constantLong RX2 11 (1152921504606846975), Cond.methodLink RX5 80 yX2_canBeTaken, Cond.static yX2_canBeTaken, Cond.code yX2_canBeTaken cX2_canBeTaken 3 (some .boolean), Cond.methodLink RX2 21 yX4_isShared, Cond.methodLink RX5 91 yX4_isRosette, Cond.code yX5_worthBehindThrow cX5_worthBehindThrow 10 (some .int), Cond.methodLink RX5 142 yX2_canMove, Cond.static yX2_canMove]
def wsX5_worth_r6 : List Cond := [Cond.code yX2_canMove cX2_canMove 7 (some .boolean), Cond.methodLink RX2 17 yX4_canEnter, Cond.methodLink RX5 158 yX5_worthBehindMove, Cond.instanceMethod yX5_worthBehindMove, Cond.selects RX5 yX5_worthBehindMove yX5_worthBehindMove]
def wsX5_worth : List Cond := .code yX5_worth cX5_worth 3 (some .int) :: ((wsX5_worth_r1 ++ (wsX5_worth_r2 ++ (wsX5_worth_r3 ++ (wsX5_worth_r4 ++ (wsX5_worth_r5 ++ wsX5_worth_r6))))) ++ wsX50 ++ wsX30 ++ wsX10 ++ (vx_at0 RX5 110 "java/lang/IllegalArgumentException" ["java/lang/RuntimeException", "java/lang/Exception"]).filter goodWord)
def wsX5_chance_r1 : List Cond := [Cond.constantDouble RX5 106 (4741671816366391296), Cond.methodLink RX5 36 yX5_refuseOutside, Cond.static yX5_refuseOutside, Cond.initialized RX5, Cond.code yX5_refuseOutside cX5_refuseOutside 3 none, Cond.classLink RX5 108 "java/lang/IllegalArgumentException", Cond.initialized "java/lang/IllegalArgumentException", Cond.methodLink RX5 102 yX5_worthForTurn, Cond.instanceMethod yX5_worthForTurn, Cond.selects RX5 yX5_worthForTurn yX5_worthForTurn, Cond.code yX5_worthForTurn cX5_worthForTurn 6 (some .int), Cond.fieldLink RX5 42 "RoyalUrTable" "winner" "I", Cond.fieldLink RX5 59 "RoyalUrTable" "turn" "I", Cond.constant RX5 105 (1000000000), Cond.fieldLink RX5 22 "RoyalUrTable" "endings" "LRoyalUrTable$Endings;", Cond.fieldLink RX5 70 "RoyalUrTable$Side" "layout" "J", Cond.fieldLink RX5 46 "RoyalUrTable" "marksTold" "I", Cond.methodLink RX5 122 yX1_fillUpTo, Cond.instanceMethod yX1_fillUpTo, Cond.selects RX1 yX1_fillUpTo yX1_fillUpTo, Cond.initialized RX1, Cond.code yX1_fillUpTo cX1_fillUpTo 4 none, Cond.methodLink RX1 17 Lib.Math.min.name, Cond.static Lib.Math.min.name]
def wsX5_chance_r2 : List Cond := [Cond.initialized "java/lang/Math", Cond.code Lib.Math.min.name Lib.Math.min.code 2 (some .int), Cond.fieldLink RX1 23 "RoyalUrTable$Endings" "roundsHeld" "I", Cond.methodLink RX1 27 yX1_fillRow, Cond.instanceMethod yX1_fillRow, Cond.selects RX1 yX1_fillRow yX1_fillRow, Cond.code yX1_fillRow cX1_fillRow 5 none, Cond.fieldLink RX1 13 "RoyalUrTable$Endings" "worths" "[I", Cond.methodLink RX1 32 yX1_worthToThrow, Cond.instanceMethod yX1_worthToThrow, Cond.selects RX1 yX1_worthToThrow yX1_worthToThrow, Cond.code yX1_worthToThrow cX1_worthToThrow 8 (some .int), Cond.constantLong RX1 50 (16), Cond.methodLink RX1 36 yX1_held, Cond.instanceMethod yX1_held, Cond.selects RX1 yX1_held yX1_held, Cond.code yX1_held cX1_held 5 (some .int), Cond.constant RX1 31 (500000000), Cond.methodLink RX1 42 yX0_timesIn16, Cond.static yX0_timesIn16, Cond.initialized RX0, Cond.code yX0_timesIn16 cX0_timesIn16 1 (some .int), Cond.fieldLink RX0 7 "RoyalUrTable$Dice" "TIMES_IN_16" "[I", Cond.methodLink RX1 46 yX1_worthBehindThrow]
def wsX5_chance_r3 : List Cond := [Cond.instanceMethod yX1_worthBehindThrow, Cond.selects RX1 yX1_worthBehindThrow yX1_worthBehindThrow, Cond.code yX1_worthBehindThrow cX1_worthBehindThrow 8 (some .int), Cond.constant RX1 56 (1000000000), Cond.methodLink RX1 52 yX4_canEnter, Cond.static yX4_canEnter, Cond.initialized RX4, Cond.code yX4_canEnter cX4_canEnter 3 (some .boolean), Cond.methodLink RX1 57 yX4_isShared, Cond.static yX4_isShared, Cond.code yX4_isShared cX4_isShared 1 (some .boolean), Cond.methodLink RX1 61 yX4_isRosette, Cond.static yX4_isRosette, Cond.code yX4_isRosette cX4_isRosette 1 (some .boolean), Cond.methodLink RX5 66 yX5_sideOf, Cond.instanceMethod yX5_sideOf, Cond.selects RX5 yX5_sideOf yX5_sideOf, Cond.code yX5_sideOf cX5_sideOf 2 (some (.object "RoyalUrTable$Side")), Cond.fieldLink RX5 10 "RoyalUrTable" "side0" "LRoyalUrTable$Side;", Cond.fieldLink RX5 16 "RoyalUrTable" "side1" "LRoyalUrTable$Side;", Cond.methodLink RX5 146 yX5_leadOfTurn, Cond.instanceMethod yX5_leadOfTurn, Cond.selects RX5 yX5_leadOfTurn yX5_leadOfTurn, Cond.code yX5_leadOfTurn cX5_leadOfTurn 1 (some .int)]
def wsX5_chance_r4 : List Cond := [Cond.methodLink RX5 98 yX2_sumOfPlaces, Cond.static yX2_sumOfPlaces, Cond.initialized RX2, Cond.code yX2_sumOfPlaces cX2_sumOfPlaces 4 (some .int), Cond.methodLink RX2 13 yX2_countAt, Cond.static yX2_countAt, Cond.code yX2_countAt cX2_countAt 3 (some .int), Cond.methodLink RX5 150 yX5_worthToThrow, Cond.instanceMethod yX5_worthToThrow, Cond.selects RX5 yX5_worthToThrow yX5_worthToThrow, Cond.code yX5_worthToThrow cX5_worthToThrow 10 (some .int), Cond.constantLong RX5 169 (16), Cond.methodLink RX5 162 yX5_worthAtOnce, Cond.instanceMethod yX5_worthAtOnce, Cond.selects RX5 yX5_worthAtOnce yX5_worthAtOnce, Cond.code yX5_worthAtOnce cX5_worthAtOnce 7 (some .int), Cond.fieldLink RX5 135 "RoyalUrTable" "piecesOfEach" "I", Cond.constant RX5 179 (500000000), Cond.constant RX5 180 (4000000), Cond.methodLink RX5 171 Lib.Math.max.name, Cond.static Lib.Math.max.name, Cond.code Lib.Math.max.name Lib.Math.max.code 2 (some .int), Cond.constant RX5 181 (999999999), Cond.methodLink RX5 182 Lib.Math.min.name]
def wsX5_chance_r5 : List Cond := [Cond.methodLink RX5 94 yX2_countAt, Cond.methodLink RX5 176 yX2_firstPlace, Cond.static yX2_firstPlace, Cond.code yX2_firstPlace cX2_firstPlace 3 (some .int), Cond.methodLink RX5 125 yX1_held, Cond.methodLink RX5 166 yX0_timesIn16, Cond.methodLink RX5 154 yX5_worthBehindThrow, Cond.instanceMethod yX5_worthBehindThrow, Cond.selects RX5 yX5_worthBehindThrow yX5_worthBehindThrow, Cond.code yX5_worthBehindMove cX5_worthBehindMove 15 (some .int), Cond.methodLink RX5 74 yX2_shifted, Cond.static yX2_shifted, Cond.code yX2_shifted cX2_shifted 4 (some .long), Cond.methodLink RX5 87 yX2_isAllHome, Cond.static yX2_isAllHome, Cond.code yX2_isAllHome cX2_isAllHome 2 (some .boolean), Cond.constantLong RX2 11 (1152921504606846975), Cond.methodLink RX5 80 yX2_canBeTaken, Cond.static yX2_canBeTaken, Cond.code yX2_canBeTaken cX2_canBeTaken 3 (some .boolean), Cond.methodLink RX2 21 yX4_isShared, Cond.methodLink RX5 91 yX4_isRosette, Cond.code yX5_worthBehindThrow cX5_worthBehindThrow 10 (some .int), Cond.methodLink RX5 142 yX2_canMove]
def wsX5_chance_r6 : List Cond := [Cond.static yX2_canMove, Cond.code yX2_canMove cX2_canMove 7 (some .boolean), Cond.methodLink RX2 17 yX4_canEnter, Cond.methodLink RX5 158 yX5_worthBehindMove, Cond.instanceMethod yX5_worthBehindMove, Cond.selects RX5 yX5_worthBehindMove yX5_worthBehindMove]
def wsX5_chance : List Cond := .code yX5_chance cX5_chance 2 (some .double) :: ((wsX5_chance_r1 ++ (wsX5_chance_r2 ++ (wsX5_chance_r3 ++ (wsX5_chance_r4 ++ (wsX5_chance_r5 ++ wsX5_chance_r6))))) ++ wsX50 ++ wsX30 ++ wsX10 ++ (vx_at0 RX5 110 "java/lang/IllegalArgumentException" ["java/lang/RuntimeException", "java/lang/Exception"]).filter goodWord)
def wsX5_noteWorthsBehind_r1 : List Cond := [Cond.fieldLink RX5 22 "RoyalUrTable" "endings" "LRoyalUrTable$Endings;", Cond.fieldLink RX5 59 "RoyalUrTable" "turn" "I", Cond.fieldLink RX5 70 "RoyalUrTable$Side" "layout" "J", Cond.fieldLink RX5 28 "RoyalUrTable" "worthsBehind" "[I", Cond.fieldLink RX5 46 "RoyalUrTable" "marksTold" "I", Cond.methodLink RX5 122 yX1_fillUpTo, Cond.instanceMethod yX1_fillUpTo, Cond.selects RX1 yX1_fillUpTo yX1_fillUpTo, Cond.initialized RX1, Cond.code yX1_fillUpTo cX1_fillUpTo 4 none, Cond.methodLink RX1 17 Lib.Math.min.name, Cond.static Lib.Math.min.name, Cond.initialized "java/lang/Math", Cond.code Lib.Math.min.name Lib.Math.min.code 2 (some .int), Cond.fieldLink RX1 23 "RoyalUrTable$Endings" "roundsHeld" "I", Cond.methodLink RX1 27 yX1_fillRow, Cond.instanceMethod yX1_fillRow, Cond.selects RX1 yX1_fillRow yX1_fillRow, Cond.code yX1_fillRow cX1_fillRow 5 none, Cond.fieldLink RX1 13 "RoyalUrTable$Endings" "worths" "[I", Cond.methodLink RX1 32 yX1_worthToThrow, Cond.instanceMethod yX1_worthToThrow, Cond.selects RX1 yX1_worthToThrow yX1_worthToThrow, Cond.code yX1_worthToThrow cX1_worthToThrow 8 (some .int)]
def wsX5_noteWorthsBehind_r2 : List Cond := [Cond.constantLong RX1 50 (16), Cond.methodLink RX1 36 yX1_held, Cond.instanceMethod yX1_held, Cond.selects RX1 yX1_held yX1_held, Cond.code yX1_held cX1_held 5 (some .int), Cond.constant RX1 31 (500000000), Cond.methodLink RX1 42 yX0_timesIn16, Cond.static yX0_timesIn16, Cond.initialized RX0, Cond.code yX0_timesIn16 cX0_timesIn16 1 (some .int), Cond.fieldLink RX0 7 "RoyalUrTable$Dice" "TIMES_IN_16" "[I", Cond.methodLink RX1 46 yX1_worthBehindThrow, Cond.instanceMethod yX1_worthBehindThrow, Cond.selects RX1 yX1_worthBehindThrow yX1_worthBehindThrow, Cond.code yX1_worthBehindThrow cX1_worthBehindThrow 8 (some .int), Cond.constant RX1 56 (1000000000), Cond.methodLink RX1 52 yX4_canEnter, Cond.static yX4_canEnter, Cond.initialized RX4, Cond.code yX4_canEnter cX4_canEnter 3 (some .boolean), Cond.methodLink RX1 57 yX4_isShared, Cond.static yX4_isShared, Cond.code yX4_isShared cX4_isShared 1 (some .boolean), Cond.methodLink RX1 61 yX4_isRosette]
def wsX5_noteWorthsBehind_r3 : List Cond := [Cond.static yX4_isRosette, Cond.code yX4_isRosette cX4_isRosette 1 (some .boolean), Cond.methodLink RX5 66 yX5_sideOf, Cond.instanceMethod yX5_sideOf, Cond.selects RX5 yX5_sideOf yX5_sideOf, Cond.initialized RX5, Cond.code yX5_sideOf cX5_sideOf 2 (some (.object "RoyalUrTable$Side")), Cond.fieldLink RX5 10 "RoyalUrTable" "side0" "LRoyalUrTable$Side;", Cond.fieldLink RX5 16 "RoyalUrTable" "side1" "LRoyalUrTable$Side;", Cond.methodLink RX5 146 yX5_leadOfTurn, Cond.instanceMethod yX5_leadOfTurn, Cond.selects RX5 yX5_leadOfTurn yX5_leadOfTurn, Cond.code yX5_leadOfTurn cX5_leadOfTurn 1 (some .int), Cond.methodLink RX5 98 yX2_sumOfPlaces, Cond.static yX2_sumOfPlaces, Cond.initialized RX2, Cond.code yX2_sumOfPlaces cX2_sumOfPlaces 4 (some .int), Cond.methodLink RX2 13 yX2_countAt, Cond.static yX2_countAt, Cond.code yX2_countAt cX2_countAt 3 (some .int), Cond.methodLink RX5 142 yX2_canMove, Cond.static yX2_canMove, Cond.code yX2_canMove cX2_canMove 7 (some .boolean), Cond.methodLink RX2 17 yX4_canEnter]
def wsX5_noteWorthsBehind_r4 : List Cond := [Cond.methodLink RX5 158 yX5_worthBehindMove, Cond.instanceMethod yX5_worthBehindMove, Cond.selects RX5 yX5_worthBehindMove yX5_worthBehindMove, Cond.code yX5_worthBehindMove cX5_worthBehindMove 15 (some .int), Cond.constant RX5 105 (1000000000), Cond.methodLink RX5 74 yX2_shifted, Cond.static yX2_shifted, Cond.code yX2_shifted cX2_shifted 4 (some .long), Cond.methodLink RX5 87 yX2_isAllHome, Cond.static yX2_isAllHome, Cond.code yX2_isAllHome cX2_isAllHome 2 (some .boolean), Cond.constantLong RX2 11 (1152921504606846975), Cond.methodLink RX5 80 yX2_canBeTaken, Cond.static yX2_canBeTaken, Cond.code yX2_canBeTaken cX2_canBeTaken 3 (some .boolean), Cond.methodLink RX2 21 yX4_isShared, Cond.methodLink RX5 91 yX4_isRosette, Cond.methodLink RX5 150 yX5_worthToThrow, Cond.instanceMethod yX5_worthToThrow, Cond.selects RX5 yX5_worthToThrow yX5_worthToThrow, Cond.code yX5_worthBehindThrow cX5_worthBehindThrow 10 (some .int), Cond.methodLink RX5 171 Lib.Math.max.name, Cond.static Lib.Math.max.name, Cond.code Lib.Math.max.name Lib.Math.max.code 2 (some .int)]
def wsX5_noteWorthsBehind_r5 : List Cond := [Cond.code yX5_worthToThrow cX5_worthToThrow 10 (some .int), Cond.constantLong RX5 169 (16), Cond.methodLink RX5 162 yX5_worthAtOnce, Cond.instanceMethod yX5_worthAtOnce, Cond.selects RX5 yX5_worthAtOnce yX5_worthAtOnce, Cond.code yX5_worthAtOnce cX5_worthAtOnce 7 (some .int), Cond.fieldLink RX5 135 "RoyalUrTable" "piecesOfEach" "I", Cond.constant RX5 179 (500000000), Cond.constant RX5 180 (4000000), Cond.constant RX5 181 (999999999), Cond.methodLink RX5 182 Lib.Math.min.name, Cond.methodLink RX5 94 yX2_countAt, Cond.methodLink RX5 176 yX2_firstPlace, Cond.static yX2_firstPlace, Cond.code yX2_firstPlace cX2_firstPlace 3 (some .int), Cond.methodLink RX5 125 yX1_held, Cond.methodLink RX5 166 yX0_timesIn16, Cond.methodLink RX5 154 yX5_worthBehindThrow, Cond.instanceMethod yX5_worthBehindThrow, Cond.selects RX5 yX5_worthBehindThrow yX5_worthBehindThrow]
def wsX5_noteWorthsBehind : List Cond := .code yX5_noteWorthsBehind cX5_noteWorthsBehind 8 none :: ((wsX5_noteWorthsBehind_r1 ++ (wsX5_noteWorthsBehind_r2 ++ (wsX5_noteWorthsBehind_r3 ++ (wsX5_noteWorthsBehind_r4 ++ wsX5_noteWorthsBehind_r5)))) ++ wsX50 ++ wsX30 ++ wsX10)
def wsX5_countBetter : List Cond := .code yX5_countBetter cX5_countBetter 5 (some .int) :: ([.fieldLink RX5 28 "RoyalUrTable" "worthsBehind" "[I"] ++ wsX50)
def wsX5_ranked_r1 : List Cond := [Cond.classLink RX5 108 "java/lang/IllegalArgumentException", Cond.initialized "java/lang/IllegalArgumentException", Cond.fieldLink RX5 46 "RoyalUrTable" "marksTold" "I", Cond.fieldLink RX5 28 "RoyalUrTable" "worthsBehind" "[I", Cond.methodLink RX5 36 yX5_refuseOutside, Cond.static yX5_refuseOutside, Cond.initialized RX5, Cond.code yX5_refuseOutside cX5_refuseOutside 3 none, Cond.methodLink RX5 55 yX5_countMoves, Cond.instanceMethod yX5_countMoves, Cond.selects RX5 yX5_countMoves yX5_countMoves, Cond.code yX5_countMoves cX5_countMoves 8 (some .int), Cond.fieldLink RX5 59 "RoyalUrTable" "turn" "I", Cond.fieldLink RX5 70 "RoyalUrTable$Side" "layout" "J", Cond.methodLink RX5 66 yX5_sideOf, Cond.instanceMethod yX5_sideOf, Cond.selects RX5 yX5_sideOf yX5_sideOf, Cond.code yX5_sideOf cX5_sideOf 2 (some (.object "RoyalUrTable$Side")), Cond.fieldLink RX5 10 "RoyalUrTable" "side0" "LRoyalUrTable$Side;", Cond.fieldLink RX5 16 "RoyalUrTable" "side1" "LRoyalUrTable$Side;", Cond.methodLink RX5 142 yX2_canMove, Cond.static yX2_canMove, Cond.initialized RX2, Cond.code yX2_canMove cX2_canMove 7 (some .boolean)]
def wsX5_ranked_r2 : List Cond := [Cond.methodLink RX2 13 yX2_countAt, Cond.static yX2_countAt, Cond.code yX2_countAt cX2_countAt 3 (some .int), Cond.methodLink RX2 17 yX4_canEnter, Cond.static yX4_canEnter, Cond.initialized RX4, Cond.code yX4_canEnter cX4_canEnter 3 (some .boolean), Cond.methodLink RX5 111 yX5_noteWorthsBehind, Cond.instanceMethod yX5_noteWorthsBehind, Cond.selects RX5 yX5_noteWorthsBehind yX5_noteWorthsBehind, Cond.code yX5_noteWorthsBehind cX5_noteWorthsBehind 8 none, Cond.fieldLink RX5 22 "RoyalUrTable" "endings" "LRoyalUrTable$Endings;", Cond.methodLink RX5 122 yX1_fillUpTo, Cond.instanceMethod yX1_fillUpTo, Cond.selects RX1 yX1_fillUpTo yX1_fillUpTo, Cond.initialized RX1, Cond.code yX1_fillUpTo cX1_fillUpTo 4 none, Cond.methodLink RX1 17 Lib.Math.min.name, Cond.static Lib.Math.min.name, Cond.initialized "java/lang/Math", Cond.code Lib.Math.min.name Lib.Math.min.code 2 (some .int), Cond.fieldLink RX1 23 "RoyalUrTable$Endings" "roundsHeld" "I", Cond.methodLink RX1 27 yX1_fillRow, Cond.instanceMethod yX1_fillRow]
def wsX5_ranked_r3 : List Cond := [Cond.selects RX1 yX1_fillRow yX1_fillRow, Cond.code yX1_fillRow cX1_fillRow 5 none, Cond.fieldLink RX1 13 "RoyalUrTable$Endings" "worths" "[I", Cond.methodLink RX1 32 yX1_worthToThrow, Cond.instanceMethod yX1_worthToThrow, Cond.selects RX1 yX1_worthToThrow yX1_worthToThrow, Cond.code yX1_worthToThrow cX1_worthToThrow 8 (some .int), Cond.constantLong RX1 50 (16), Cond.methodLink RX1 36 yX1_held, Cond.instanceMethod yX1_held, Cond.selects RX1 yX1_held yX1_held, Cond.code yX1_held cX1_held 5 (some .int), Cond.constant RX1 31 (500000000), Cond.methodLink RX1 42 yX0_timesIn16, Cond.static yX0_timesIn16, Cond.initialized RX0, Cond.code yX0_timesIn16 cX0_timesIn16 1 (some .int), Cond.fieldLink RX0 7 "RoyalUrTable$Dice" "TIMES_IN_16" "[I", Cond.methodLink RX1 46 yX1_worthBehindThrow, Cond.instanceMethod yX1_worthBehindThrow, Cond.selects RX1 yX1_worthBehindThrow yX1_worthBehindThrow, Cond.code yX1_worthBehindThrow cX1_worthBehindThrow 8 (some .int), Cond.constant RX1 56 (1000000000), Cond.methodLink RX1 52 yX4_canEnter]
def wsX5_ranked_r4 : List Cond := [Cond.methodLink RX1 57 yX4_isShared, Cond.static yX4_isShared, Cond.code yX4_isShared cX4_isShared 1 (some .boolean), Cond.methodLink RX1 61 yX4_isRosette, Cond.static yX4_isRosette, Cond.code yX4_isRosette cX4_isRosette 1 (some .boolean), Cond.methodLink RX5 146 yX5_leadOfTurn, Cond.instanceMethod yX5_leadOfTurn, Cond.selects RX5 yX5_leadOfTurn yX5_leadOfTurn, Cond.code yX5_leadOfTurn cX5_leadOfTurn 1 (some .int), Cond.methodLink RX5 98 yX2_sumOfPlaces, Cond.static yX2_sumOfPlaces, Cond.code yX2_sumOfPlaces cX2_sumOfPlaces 4 (some .int), Cond.methodLink RX5 158 yX5_worthBehindMove, Cond.instanceMethod yX5_worthBehindMove, Cond.selects RX5 yX5_worthBehindMove yX5_worthBehindMove, Cond.code yX5_worthBehindMove cX5_worthBehindMove 15 (some .int), Cond.constant RX5 105 (1000000000), Cond.methodLink RX5 74 yX2_shifted, Cond.static yX2_shifted, Cond.code yX2_shifted cX2_shifted 4 (some .long), Cond.methodLink RX5 87 yX2_isAllHome, Cond.static yX2_isAllHome, Cond.code yX2_isAllHome cX2_isAllHome 2 (some .boolean)]
def wsX5_ranked_r5 : List Cond := [Cond.constantLong RX2 11 (1152921504606846975), Cond.methodLink RX5 80 yX2_canBeTaken, Cond.static yX2_canBeTaken, Cond.code yX2_canBeTaken cX2_canBeTaken 3 (some .boolean), Cond.methodLink RX2 21 yX4_isShared, Cond.methodLink RX5 91 yX4_isRosette, Cond.methodLink RX5 150 yX5_worthToThrow, Cond.instanceMethod yX5_worthToThrow, Cond.selects RX5 yX5_worthToThrow yX5_worthToThrow, Cond.code yX5_worthBehindThrow cX5_worthBehindThrow 10 (some .int), Cond.methodLink RX5 171 Lib.Math.max.name, Cond.static Lib.Math.max.name, Cond.code Lib.Math.max.name Lib.Math.max.code 2 (some .int), Cond.code yX5_worthToThrow cX5_worthToThrow 10 (some .int), Cond.constantLong RX5 169 (16), Cond.methodLink RX5 162 yX5_worthAtOnce, Cond.instanceMethod yX5_worthAtOnce, Cond.selects RX5 yX5_worthAtOnce yX5_worthAtOnce, Cond.code yX5_worthAtOnce cX5_worthAtOnce 7 (some .int), Cond.fieldLink RX5 135 "RoyalUrTable" "piecesOfEach" "I", Cond.constant RX5 179 (500000000), Cond.constant RX5 180 (4000000), Cond.constant RX5 181 (999999999), Cond.methodLink RX5 182 Lib.Math.min.name]
def wsX5_ranked_r6 : List Cond := [Cond.methodLink RX5 94 yX2_countAt, Cond.methodLink RX5 176 yX2_firstPlace, Cond.static yX2_firstPlace, Cond.code yX2_firstPlace cX2_firstPlace 3 (some .int), Cond.methodLink RX5 125 yX1_held, Cond.methodLink RX5 166 yX0_timesIn16, Cond.methodLink RX5 154 yX5_worthBehindThrow, Cond.instanceMethod yX5_worthBehindThrow, Cond.selects RX5 yX5_worthBehindThrow yX5_worthBehindThrow, Cond.methodLink RX5 114 yX5_countBetter, Cond.instanceMethod yX5_countBetter, Cond.selects RX5 yX5_countBetter yX5_countBetter, Cond.code yX5_countBetter cX5_countBetter 5 (some .int)]
def wsX5_ranked : List Cond := .code yX5_ranked cX5_ranked 5 (some .int) :: ((wsX5_ranked_r1 ++ (wsX5_ranked_r2 ++ (wsX5_ranked_r3 ++ (wsX5_ranked_r4 ++ (wsX5_ranked_r5 ++ wsX5_ranked_r6))))) ++ wsX50 ++ wsX30 ++ wsX10 ++ (vx_at0 RX5 110 "java/lang/IllegalArgumentException" ["java/lang/RuntimeException", "java/lang/Exception"]).filter goodWord)
def wsX5_refuseEnding : List Cond := .code yX5_refuseEnding cX5_refuseEnding 2 none :: ([.classLink RX5 108 "java/lang/IllegalArgumentException", .initialized "java/lang/IllegalArgumentException", .methodLink RX5 36 yX5_refuseOutside, .static yX5_refuseOutside, .initialized RX5, .code yX5_refuseOutside cX5_refuseOutside 3 none, .methodLink RX5 132 yX4_isShared, .static yX4_isShared, .initialized RX4, .code yX4_isShared cX4_isShared 1 (some .boolean)] ++ (vx_at0 RX5 110 "java/lang/IllegalArgumentException" ["java/lang/RuntimeException", "java/lang/Exception"]).filter goodWord)
def wsX5_ending_r1 : List Cond := [Cond.fieldLink RX5 22 "RoyalUrTable" "endings" "LRoyalUrTable$Endings;", Cond.methodLink RX5 118 yX5_refuseEnding, Cond.static yX5_refuseEnding, Cond.initialized RX5, Cond.code yX5_refuseEnding cX5_refuseEnding 2 none, Cond.classLink RX5 108 "java/lang/IllegalArgumentException", Cond.initialized "java/lang/IllegalArgumentException", Cond.methodLink RX5 36 yX5_refuseOutside, Cond.static yX5_refuseOutside, Cond.code yX5_refuseOutside cX5_refuseOutside 3 none, Cond.methodLink RX5 132 yX4_isShared, Cond.static yX4_isShared, Cond.initialized RX4, Cond.code yX4_isShared cX4_isShared 1 (some .boolean), Cond.methodLink RX5 122 yX1_fillUpTo, Cond.instanceMethod yX1_fillUpTo, Cond.selects RX1 yX1_fillUpTo yX1_fillUpTo, Cond.initialized RX1, Cond.code yX1_fillUpTo cX1_fillUpTo 4 none, Cond.methodLink RX1 17 Lib.Math.min.name, Cond.static Lib.Math.min.name, Cond.initialized "java/lang/Math", Cond.code Lib.Math.min.name Lib.Math.min.code 2 (some .int), Cond.fieldLink RX1 23 "RoyalUrTable$Endings" "roundsHeld" "I"]
def wsX5_ending_r2 : List Cond := [Cond.methodLink RX1 27 yX1_fillRow, Cond.instanceMethod yX1_fillRow, Cond.selects RX1 yX1_fillRow yX1_fillRow, Cond.code yX1_fillRow cX1_fillRow 5 none, Cond.fieldLink RX1 13 "RoyalUrTable$Endings" "worths" "[I", Cond.methodLink RX1 32 yX1_worthToThrow, Cond.instanceMethod yX1_worthToThrow, Cond.selects RX1 yX1_worthToThrow yX1_worthToThrow, Cond.code yX1_worthToThrow cX1_worthToThrow 8 (some .int), Cond.constantLong RX1 50 (16), Cond.methodLink RX1 36 yX1_held, Cond.instanceMethod yX1_held, Cond.selects RX1 yX1_held yX1_held, Cond.code yX1_held cX1_held 5 (some .int), Cond.constant RX1 31 (500000000), Cond.methodLink RX1 42 yX0_timesIn16, Cond.static yX0_timesIn16, Cond.initialized RX0, Cond.code yX0_timesIn16 cX0_timesIn16 1 (some .int), Cond.fieldLink RX0 7 "RoyalUrTable$Dice" "TIMES_IN_16" "[I", Cond.methodLink RX1 46 yX1_worthBehindThrow, Cond.instanceMethod yX1_worthBehindThrow, Cond.selects RX1 yX1_worthBehindThrow yX1_worthBehindThrow, Cond.code yX1_worthBehindThrow cX1_worthBehindThrow 8 (some .int)]
def wsX5_ending_r3 : List Cond := [Cond.constant RX1 56 (1000000000), Cond.methodLink RX1 52 yX4_canEnter, Cond.static yX4_canEnter, Cond.code yX4_canEnter cX4_canEnter 3 (some .boolean), Cond.methodLink RX1 57 yX4_isShared, Cond.methodLink RX1 61 yX4_isRosette, Cond.static yX4_isRosette, Cond.code yX4_isRosette cX4_isRosette 1 (some .boolean), Cond.methodLink RX5 125 yX1_held]
def wsX5_ending : List Cond := .code yX5_ending cX5_ending 4 (some .int) :: ((wsX5_ending_r1 ++ (wsX5_ending_r2 ++ wsX5_ending_r3)) ++ wsX50 ++ wsX10 ++ (vx_at0 RX5 110 "java/lang/IllegalArgumentException" ["java/lang/RuntimeException", "java/lang/Exception"]).filter goodWord)
def wsX5_endingByThrows_r1 : List Cond := [Cond.fieldLink RX5 22 "RoyalUrTable" "endings" "LRoyalUrTable$Endings;", Cond.methodLink RX5 118 yX5_refuseEnding, Cond.static yX5_refuseEnding, Cond.initialized RX5, Cond.code yX5_refuseEnding cX5_refuseEnding 2 none, Cond.classLink RX5 108 "java/lang/IllegalArgumentException", Cond.initialized "java/lang/IllegalArgumentException", Cond.methodLink RX5 36 yX5_refuseOutside, Cond.static yX5_refuseOutside, Cond.code yX5_refuseOutside cX5_refuseOutside 3 none, Cond.methodLink RX5 132 yX4_isShared, Cond.static yX4_isShared, Cond.initialized RX4, Cond.code yX4_isShared cX4_isShared 1 (some .boolean), Cond.methodLink RX5 129 yX1_playedOut, Cond.instanceMethod yX1_playedOut, Cond.selects RX1 yX1_playedOut yX1_playedOut, Cond.initialized RX1, Cond.code yX1_playedOut cX1_playedOut 4 (some .int), Cond.methodLink RX1 32 yX1_worthToThrow, Cond.instanceMethod yX1_worthToThrow, Cond.selects RX1 yX1_worthToThrow yX1_worthToThrow, Cond.code yX1_worthToThrow cX1_worthToThrow 8 (some .int), Cond.constantLong RX1 50 (16)]
def wsX5_endingByThrows_r2 : List Cond := [Cond.methodLink RX1 36 yX1_held, Cond.instanceMethod yX1_held, Cond.selects RX1 yX1_held yX1_held, Cond.code yX1_held cX1_held 5 (some .int), Cond.constant RX1 31 (500000000), Cond.fieldLink RX1 13 "RoyalUrTable$Endings" "worths" "[I", Cond.methodLink RX1 42 yX0_timesIn16, Cond.static yX0_timesIn16, Cond.initialized RX0, Cond.code yX0_timesIn16 cX0_timesIn16 1 (some .int), Cond.fieldLink RX0 7 "RoyalUrTable$Dice" "TIMES_IN_16" "[I", Cond.methodLink RX1 46 yX1_worthBehindThrow, Cond.instanceMethod yX1_worthBehindThrow, Cond.selects RX1 yX1_worthBehindThrow yX1_worthBehindThrow, Cond.code yX1_worthBehindThrow cX1_worthBehindThrow 8 (some .int), Cond.constant RX1 56 (1000000000), Cond.methodLink RX1 52 yX4_canEnter, Cond.static yX4_canEnter, Cond.code yX4_canEnter cX4_canEnter 3 (some .boolean), Cond.methodLink RX1 57 yX4_isShared, Cond.methodLink RX1 61 yX4_isRosette, Cond.static yX4_isRosette, Cond.code yX4_isRosette cX4_isRosette 1 (some .boolean)]
def wsX5_endingByThrows : List Cond := .code yX5_endingByThrows cX5_endingByThrows 4 (some .int) :: ((wsX5_endingByThrows_r1 ++ wsX5_endingByThrows_r2) ++ wsX50 ++ wsX10 ++ (vx_at0 RX5 110 "java/lang/IllegalArgumentException" ["java/lang/RuntimeException", "java/lang/Exception"]).filter goodWord)
def wsX6_in : List Cond := .code yX6_in cX6_in 3 (some .boolean) :: ([])
def wsX6_isShared : List Cond := .code yX6_isShared cX6_isShared 1 (some .boolean) :: ([.methodLink RX6 67 yX6_in, .static yX6_in, .initialized RX6, .code yX6_in cX6_in 3 (some .boolean)])
def wsX6_isRosette : List Cond := .code yX6_isRosette cX6_isRosette 1 (some .boolean) :: ([])
def wsX6_behindThrow : List Cond := .code yX6_behindThrow cX6_behindThrow 6 (some .int) :: ([.constant RX6 71 (1000000000), .fieldLink RX6 29 "RoyalUrTableModel" "elder" "[I", .methodLink RX6 72 yX6_isShared, .static yX6_isShared, .initialized RX6, .code yX6_isShared cX6_isShared 1 (some .boolean), .methodLink RX6 67 yX6_in, .static yX6_in, .code yX6_in cX6_in 3 (some .boolean), .methodLink RX6 76 yX6_isRosette, .static yX6_isRosette, .code yX6_isRosette cX6_isRosette 1 (some .boolean)] ++ wsX60)
def wsX6_layTable : List Cond := .code yX6_layTable cX6_layTable 7 none :: ([.fieldLink RX6 26 "RoyalUrTableModel" "table" "[I", .constant RX6 79 (500000000), .fieldLink RX6 29 "RoyalUrTableModel" "elder" "[I", .fieldLink RX6 23 "RoyalUrTableModel" "times" "[I", .constantLong RX6 84 (16), .methodLink RX6 80 yX6_behindThrow, .instanceMethod yX6_behindThrow, .selects RX6 yX6_behindThrow yX6_behindThrow, .initialized RX6, .code yX6_behindThrow cX6_behindThrow 6 (some .int), .constant RX6 71 (1000000000), .methodLink RX6 72 yX6_isShared, .static yX6_isShared, .code yX6_isShared cX6_isShared 1 (some .boolean), .methodLink RX6 67 yX6_in, .static yX6_in, .code yX6_in cX6_in 3 (some .boolean), .methodLink RX6 76 yX6_isRosette, .static yX6_isRosette, .code yX6_isRosette cX6_isRosette 1 (some .boolean)] ++ wsX60)
def wsX6_starts : List Cond := .code yX6_starts cX6_starts 3 none :: ([.fieldLink RX6 90 "RoyalUrTableModel" "pieces" "I", .fieldLink RX6 128 "RoyalUrTableModel" "side" "I", .fieldLink RX6 9 "RoyalUrTableModel" "told" "I", .fieldLink RX6 13 "RoyalUrTableModel" "won" "I", .fieldLink RX6 140 "RoyalUrTableModel" "count" "I", .fieldLink RX6 20 "RoyalUrTableModel" "at" "[I", .fieldLink RX6 16 "RoyalUrTableModel" "lost" "[I"] ++ wsX60)
def wsX6_init_r1 : List Cond := [Cond.methodLink RX6 1 objectInit, Cond.instanceMethod objectInit, Cond.code objectInit ⟨#[0xb1]⟩ 1 none, Cond.fieldLink RX6 9 "RoyalUrTableModel" "told" "I", Cond.fieldLink RX6 13 "RoyalUrTableModel" "won" "I", Cond.arrayClass .int, Cond.fieldLink RX6 16 "RoyalUrTableModel" "lost" "[I", Cond.fieldLink RX6 20 "RoyalUrTableModel" "at" "[I", Cond.fieldLink RX6 23 "RoyalUrTableModel" "times" "[I", Cond.fieldLink RX6 26 "RoyalUrTableModel" "table" "[I", Cond.fieldLink RX6 29 "RoyalUrTableModel" "elder" "[I", Cond.fieldLink RX6 32 "RoyalUrTableModel" "forty" "[I", Cond.fieldLink RX6 35 "RoyalUrTableModel" "walk" "[I", Cond.fieldLink RX6 38 "RoyalUrTableModel" "sides" "[I", Cond.fieldLink RX6 41 "RoyalUrTableModel" "marks" "[I", Cond.fieldLink RX6 44 "RoyalUrTableModel" "next" "[I", Cond.fieldLink RX6 47 "RoyalUrTableModel" "best" "[I", Cond.arrayClass .long, Cond.fieldLink RX6 50 "RoyalUrTableModel" "sums" "[J", Cond.fieldLink RX6 54 "RoyalUrTableModel" "behind" "[I", Cond.methodLink RX6 57 yX6_layTable, Cond.instanceMethod yX6_layTable, Cond.selects RX6 yX6_layTable yX6_layTable, Cond.initialized RX6]
def wsX6_init_r2 : List Cond := [Cond.code yX6_layTable cX6_layTable 7 none, Cond.constant RX6 79 (500000000), Cond.constantLong RX6 84 (16), Cond.methodLink RX6 80 yX6_behindThrow, Cond.instanceMethod yX6_behindThrow, Cond.selects RX6 yX6_behindThrow yX6_behindThrow, Cond.code yX6_behindThrow cX6_behindThrow 6 (some .int), Cond.constant RX6 71 (1000000000), Cond.methodLink RX6 72 yX6_isShared, Cond.static yX6_isShared, Cond.code yX6_isShared cX6_isShared 1 (some .boolean), Cond.methodLink RX6 67 yX6_in, Cond.static yX6_in, Cond.code yX6_in cX6_in 3 (some .boolean), Cond.methodLink RX6 76 yX6_isRosette, Cond.static yX6_isRosette, Cond.code yX6_isRosette cX6_isRosette 1 (some .boolean), Cond.methodLink RX6 61 yX6_starts, Cond.instanceMethod yX6_starts, Cond.selects RX6 yX6_starts yX6_starts, Cond.code yX6_starts cX6_starts 3 none, Cond.fieldLink RX6 90 "RoyalUrTableModel" "pieces" "I", Cond.fieldLink RX6 128 "RoyalUrTableModel" "side" "I", Cond.fieldLink RX6 140 "RoyalUrTableModel" "count" "I"]
def wsX6_init : List Cond := .code yX6_init cX6_init 2 none :: ((wsX6_init_r1 ++ wsX6_init_r2) ++ wsX60)
def wsX6_thrown : List Cond := .code yX6_thrown cX6_thrown 1 (some .int) :: ([.fieldLink RX6 64 "RoyalUrTableModel" "thrown" "I"] ++ wsX60)
def wsX6_fails : List Cond := .code yX6_fails cX6_fails 2 (some .int) :: ([.fieldLink RX6 64 "RoyalUrTableModel" "thrown" "I"] ++ wsX60)
def wsX6_ended_r1 : List Cond := [Cond.fieldLink RX6 64 "RoyalUrTableModel" "thrown" "I", Cond.fieldLink RX6 26 "RoyalUrTableModel" "table" "[I", Cond.methodLink RX6 67 yX6_in, Cond.static yX6_in, Cond.initialized RX6, Cond.code yX6_in cX6_in 3 (some .boolean), Cond.methodLink RX6 72 yX6_isShared, Cond.static yX6_isShared, Cond.code yX6_isShared cX6_isShared 1 (some .boolean), Cond.methodLink RX6 57 yX6_layTable, Cond.instanceMethod yX6_layTable, Cond.selects RX6 yX6_layTable yX6_layTable, Cond.code yX6_layTable cX6_layTable 7 none, Cond.constant RX6 79 (500000000), Cond.fieldLink RX6 29 "RoyalUrTableModel" "elder" "[I", Cond.fieldLink RX6 23 "RoyalUrTableModel" "times" "[I", Cond.constantLong RX6 84 (16), Cond.methodLink RX6 80 yX6_behindThrow, Cond.instanceMethod yX6_behindThrow, Cond.selects RX6 yX6_behindThrow yX6_behindThrow, Cond.code yX6_behindThrow cX6_behindThrow 6 (some .int), Cond.constant RX6 71 (1000000000), Cond.methodLink RX6 76 yX6_isRosette, Cond.static yX6_isRosette]
def wsX6_ended_r2 : List Cond := [Cond.code yX6_isRosette cX6_isRosette 1 (some .boolean)]
def wsX6_ended : List Cond := .code yX6_ended cX6_ended 5 (some .int) :: ((wsX6_ended_r1 ++ wsX6_ended_r2) ++ wsX60)
def wsX6_ending_r1 : List Cond := [Cond.methodLink RX6 86 yX6_ended, Cond.instanceMethod yX6_ended, Cond.selects RX6 yX6_ended yX6_ended, Cond.initialized RX6, Cond.code yX6_ended cX6_ended 5 (some .int), Cond.fieldLink RX6 64 "RoyalUrTableModel" "thrown" "I", Cond.fieldLink RX6 26 "RoyalUrTableModel" "table" "[I", Cond.methodLink RX6 67 yX6_in, Cond.static yX6_in, Cond.code yX6_in cX6_in 3 (some .boolean), Cond.methodLink RX6 72 yX6_isShared, Cond.static yX6_isShared, Cond.code yX6_isShared cX6_isShared 1 (some .boolean), Cond.methodLink RX6 57 yX6_layTable, Cond.instanceMethod yX6_layTable, Cond.selects RX6 yX6_layTable yX6_layTable, Cond.code yX6_layTable cX6_layTable 7 none, Cond.constant RX6 79 (500000000), Cond.fieldLink RX6 29 "RoyalUrTableModel" "elder" "[I", Cond.fieldLink RX6 23 "RoyalUrTableModel" "times" "[I", Cond.constantLong RX6 84 (16), Cond.methodLink RX6 80 yX6_behindThrow, Cond.instanceMethod yX6_behindThrow, Cond.selects RX6 yX6_behindThrow yX6_behindThrow]
def wsX6_ending_r2 : List Cond := [Cond.code yX6_behindThrow cX6_behindThrow 6 (some .int), Cond.constant RX6 71 (1000000000), Cond.methodLink RX6 76 yX6_isRosette, Cond.static yX6_isRosette, Cond.code yX6_isRosette cX6_isRosette 1 (some .boolean)]
def wsX6_ending : List Cond := .code yX6_ending cX6_ending 4 (some .int) :: ((wsX6_ending_r1 ++ wsX6_ending_r2) ++ wsX60)
def wsX6_endingByThrows_r1 : List Cond := [Cond.methodLink RX6 86 yX6_ended, Cond.instanceMethod yX6_ended, Cond.selects RX6 yX6_ended yX6_ended, Cond.initialized RX6, Cond.code yX6_ended cX6_ended 5 (some .int), Cond.fieldLink RX6 64 "RoyalUrTableModel" "thrown" "I", Cond.fieldLink RX6 26 "RoyalUrTableModel" "table" "[I", Cond.methodLink RX6 67 yX6_in, Cond.static yX6_in, Cond.code yX6_in cX6_in 3 (some .boolean), Cond.methodLink RX6 72 yX6_isShared, Cond.static yX6_isShared, Cond.code yX6_isShared cX6_isShared 1 (some .boolean), Cond.methodLink RX6 57 yX6_layTable, Cond.instanceMethod yX6_layTable, Cond.selects RX6 yX6_layTable yX6_layTable, Cond.code yX6_layTable cX6_layTable 7 none, Cond.constant RX6 79 (500000000), Cond.fieldLink RX6 29 "RoyalUrTableModel" "elder" "[I", Cond.fieldLink RX6 23 "RoyalUrTableModel" "times" "[I", Cond.constantLong RX6 84 (16), Cond.methodLink RX6 80 yX6_behindThrow, Cond.instanceMethod yX6_behindThrow, Cond.selects RX6 yX6_behindThrow yX6_behindThrow]
def wsX6_endingByThrows_r2 : List Cond := [Cond.code yX6_behindThrow cX6_behindThrow 6 (some .int), Cond.constant RX6 71 (1000000000), Cond.methodLink RX6 76 yX6_isRosette, Cond.static yX6_isRosette, Cond.code yX6_isRosette cX6_isRosette 1 (some .boolean)]
def wsX6_endingByThrows : List Cond := .code yX6_endingByThrows cX6_endingByThrows 4 (some .int) :: ((wsX6_endingByThrows_r1 ++ wsX6_endingByThrows_r2) ++ wsX60)
def wsX6_canMove : List Cond := .code yX6_canMove cX6_canMove 7 (some .boolean) :: ([])
def wsX6_shifts : List Cond := .code yX6_shifts cX6_shifts 8 (some .int) :: ([.methodLink RX6 72 yX6_isShared, .static yX6_isShared, .initialized RX6, .code yX6_isShared cX6_isShared 1 (some .boolean), .methodLink RX6 67 yX6_in, .static yX6_in, .code yX6_in cX6_in 3 (some .boolean)])
def wsX6_progressOf : List Cond := .code yX6_progressOf cX6_progressOf 6 (some .int) :: ([])
def wsX6_onlyOne : List Cond := .code yX6_onlyOne cX6_onlyOne 6 (some .int) :: ([.fieldLink RX6 90 "RoyalUrTableModel" "pieces" "I"] ++ wsX60)
def wsX6_leaf : List Cond := .code yX6_leaf cX6_leaf 6 (some .int) :: ([.fieldLink RX6 35 "RoyalUrTableModel" "walk" "[I", .fieldLink RX6 32 "RoyalUrTableModel" "forty" "[I", .constant RX6 79 (500000000), .constant RX6 97 (4000000), .constant RX6 101 (999999999), .methodLink RX6 93 yX6_onlyOne, .instanceMethod yX6_onlyOne, .selects RX6 yX6_onlyOne yX6_onlyOne, .initialized RX6, .code yX6_onlyOne cX6_onlyOne 6 (some .int), .fieldLink RX6 90 "RoyalUrTableModel" "pieces" "I", .methodLink RX6 98 yX6_progressOf, .instanceMethod yX6_progressOf, .selects RX6 yX6_progressOf yX6_progressOf, .code yX6_progressOf cX6_progressOf 6 (some .int)] ++ wsX60)
def wsX6_enters : List Cond := .code yX6_enters cX6_enters 3 none :: ([.fieldLink RX6 38 "RoyalUrTableModel" "sides" "[I", .fieldLink RX6 41 "RoyalUrTableModel" "marks" "[I", .fieldLink RX6 44 "RoyalUrTableModel" "next" "[I", .fieldLink RX6 47 "RoyalUrTableModel" "best" "[I", .fieldLink RX6 50 "RoyalUrTableModel" "sums" "[J"] ++ wsX60)
def wsX6_copies : List Cond := .code yX6_copies cX6_copies 3 none :: ([.fieldLink RX6 35 "RoyalUrTableModel" "walk" "[I"] ++ wsX60)
def wsX6_takes : List Cond := .code yX6_takes cX6_takes 5 none :: ([.fieldLink RX6 38 "RoyalUrTableModel" "sides" "[I", .constant RX6 71 (1000000000), .fieldLink RX6 47 "RoyalUrTableModel" "best" "[I"] ++ wsX60)
def wsX6_goesOn_r1 : List Cond := [Cond.fieldLink RX6 38 "RoyalUrTableModel" "sides" "[I", Cond.fieldLink RX6 44 "RoyalUrTableModel" "next" "[I", Cond.fieldLink RX6 35 "RoyalUrTableModel" "walk" "[I", Cond.fieldLink RX6 41 "RoyalUrTableModel" "marks" "[I", Cond.fieldLink RX6 90 "RoyalUrTableModel" "pieces" "I", Cond.fieldLink RX6 47 "RoyalUrTableModel" "best" "[I", Cond.constant RX6 71 (1000000000), Cond.methodLink RX6 102 yX6_canMove, Cond.static yX6_canMove, Cond.initialized RX6, Cond.code yX6_canMove cX6_canMove 7 (some .boolean), Cond.methodLink RX6 106 yX6_copies, Cond.instanceMethod yX6_copies, Cond.selects RX6 yX6_copies yX6_copies, Cond.code yX6_copies cX6_copies 3 none, Cond.methodLink RX6 109 yX6_shifts, Cond.static yX6_shifts, Cond.code yX6_shifts cX6_shifts 8 (some .int), Cond.methodLink RX6 72 yX6_isShared, Cond.static yX6_isShared, Cond.code yX6_isShared cX6_isShared 1 (some .boolean), Cond.methodLink RX6 67 yX6_in, Cond.static yX6_in, Cond.code yX6_in cX6_in 3 (some .boolean)]
def wsX6_goesOn_r2 : List Cond := [Cond.methodLink RX6 76 yX6_isRosette, Cond.static yX6_isRosette, Cond.code yX6_isRosette cX6_isRosette 1 (some .boolean), Cond.methodLink RX6 113 yX6_enters, Cond.instanceMethod yX6_enters, Cond.selects RX6 yX6_enters yX6_enters, Cond.code yX6_enters cX6_enters 3 none, Cond.fieldLink RX6 50 "RoyalUrTableModel" "sums" "[J"]
def wsX6_goesOn : List Cond := .code yX6_goesOn cX6_goesOn 6 (some .boolean) :: ((wsX6_goesOn_r1 ++ wsX6_goesOn_r2) ++ wsX60)
def wsX6_worthOf_r1 : List Cond := [Cond.fieldLink RX6 38 "RoyalUrTableModel" "sides" "[I", Cond.fieldLink RX6 50 "RoyalUrTableModel" "sums" "[J", Cond.fieldLink RX6 23 "RoyalUrTableModel" "times" "[I", Cond.fieldLink RX6 41 "RoyalUrTableModel" "marks" "[I", Cond.fieldLink RX6 47 "RoyalUrTableModel" "best" "[I", Cond.fieldLink RX6 44 "RoyalUrTableModel" "next" "[I", Cond.constantLong RX6 84 (16), Cond.methodLink RX6 113 yX6_enters, Cond.instanceMethod yX6_enters, Cond.selects RX6 yX6_enters yX6_enters, Cond.initialized RX6, Cond.code yX6_enters cX6_enters 3 none, Cond.methodLink RX6 117 yX6_leaf, Cond.instanceMethod yX6_leaf, Cond.selects RX6 yX6_leaf yX6_leaf, Cond.code yX6_leaf cX6_leaf 6 (some .int), Cond.fieldLink RX6 35 "RoyalUrTableModel" "walk" "[I", Cond.fieldLink RX6 32 "RoyalUrTableModel" "forty" "[I", Cond.constant RX6 79 (500000000), Cond.constant RX6 97 (4000000), Cond.constant RX6 101 (999999999), Cond.methodLink RX6 93 yX6_onlyOne, Cond.instanceMethod yX6_onlyOne, Cond.selects RX6 yX6_onlyOne yX6_onlyOne]
def wsX6_worthOf_r2 : List Cond := [Cond.code yX6_onlyOne cX6_onlyOne 6 (some .int), Cond.fieldLink RX6 90 "RoyalUrTableModel" "pieces" "I", Cond.methodLink RX6 98 yX6_progressOf, Cond.instanceMethod yX6_progressOf, Cond.selects RX6 yX6_progressOf yX6_progressOf, Cond.code yX6_progressOf cX6_progressOf 6 (some .int), Cond.methodLink RX6 121 yX6_goesOn, Cond.instanceMethod yX6_goesOn, Cond.selects RX6 yX6_goesOn yX6_goesOn, Cond.code yX6_goesOn cX6_goesOn 6 (some .boolean), Cond.constant RX6 71 (1000000000), Cond.methodLink RX6 102 yX6_canMove, Cond.static yX6_canMove, Cond.code yX6_canMove cX6_canMove 7 (some .boolean), Cond.methodLink RX6 106 yX6_copies, Cond.instanceMethod yX6_copies, Cond.selects RX6 yX6_copies yX6_copies, Cond.code yX6_copies cX6_copies 3 none, Cond.methodLink RX6 109 yX6_shifts, Cond.static yX6_shifts, Cond.code yX6_shifts cX6_shifts 8 (some .int), Cond.methodLink RX6 72 yX6_isShared, Cond.static yX6_isShared, Cond.code yX6_isShared cX6_isShared 1 (some .boolean)]
def wsX6_worthOf_r3 : List Cond := [Cond.methodLink RX6 67 yX6_in, Cond.static yX6_in, Cond.code yX6_in cX6_in 3 (some .boolean), Cond.methodLink RX6 76 yX6_isRosette, Cond.static yX6_isRosette, Cond.code yX6_isRosette cX6_isRosette 1 (some .boolean), Cond.methodLink RX6 124 yX6_takes, Cond.instanceMethod yX6_takes, Cond.selects RX6 yX6_takes yX6_takes, Cond.code yX6_takes cX6_takes 5 none]
def wsX6_worthOf : List Cond := .code yX6_worthOf cX6_worthOf 5 (some .int) :: ((wsX6_worthOf_r1 ++ (wsX6_worthOf_r2 ++ wsX6_worthOf_r3)) ++ wsX60)
def wsX6_lays : List Cond := .code yX6_lays cX6_lays 2 none :: ([.fieldLink RX6 35 "RoyalUrTableModel" "walk" "[I", .fieldLink RX6 20 "RoyalUrTableModel" "at" "[I"] ++ wsX60)
def wsX6_layBehind_r1 : List Cond := [Cond.fieldLink RX6 54 "RoyalUrTableModel" "behind" "[I", Cond.fieldLink RX6 9 "RoyalUrTableModel" "told" "I", Cond.fieldLink RX6 20 "RoyalUrTableModel" "at" "[I", Cond.fieldLink RX6 128 "RoyalUrTableModel" "side" "I", Cond.fieldLink RX6 35 "RoyalUrTableModel" "walk" "[I", Cond.fieldLink RX6 90 "RoyalUrTableModel" "pieces" "I", Cond.constant RX6 71 (1000000000), Cond.methodLink RX6 102 yX6_canMove, Cond.static yX6_canMove, Cond.initialized RX6, Cond.code yX6_canMove cX6_canMove 7 (some .boolean), Cond.methodLink RX6 131 yX6_lays, Cond.instanceMethod yX6_lays, Cond.selects RX6 yX6_lays yX6_lays, Cond.code yX6_lays cX6_lays 2 none, Cond.methodLink RX6 109 yX6_shifts, Cond.static yX6_shifts, Cond.code yX6_shifts cX6_shifts 8 (some .int), Cond.methodLink RX6 72 yX6_isShared, Cond.static yX6_isShared, Cond.code yX6_isShared cX6_isShared 1 (some .boolean), Cond.methodLink RX6 67 yX6_in, Cond.static yX6_in, Cond.code yX6_in cX6_in 3 (some .boolean)]
def wsX6_layBehind_r2 : List Cond := [Cond.methodLink RX6 76 yX6_isRosette, Cond.static yX6_isRosette, Cond.code yX6_isRosette cX6_isRosette 1 (some .boolean), Cond.methodLink RX6 134 yX6_worthOf, Cond.instanceMethod yX6_worthOf, Cond.selects RX6 yX6_worthOf yX6_worthOf, Cond.code yX6_worthOf cX6_worthOf 5 (some .int), Cond.fieldLink RX6 38 "RoyalUrTableModel" "sides" "[I", Cond.fieldLink RX6 50 "RoyalUrTableModel" "sums" "[J", Cond.fieldLink RX6 23 "RoyalUrTableModel" "times" "[I", Cond.fieldLink RX6 41 "RoyalUrTableModel" "marks" "[I", Cond.fieldLink RX6 47 "RoyalUrTableModel" "best" "[I", Cond.fieldLink RX6 44 "RoyalUrTableModel" "next" "[I", Cond.constantLong RX6 84 (16), Cond.methodLink RX6 113 yX6_enters, Cond.instanceMethod yX6_enters, Cond.selects RX6 yX6_enters yX6_enters, Cond.code yX6_enters cX6_enters 3 none, Cond.methodLink RX6 117 yX6_leaf, Cond.instanceMethod yX6_leaf, Cond.selects RX6 yX6_leaf yX6_leaf, Cond.code yX6_leaf cX6_leaf 6 (some .int), Cond.fieldLink RX6 32 "RoyalUrTableModel" "forty" "[I", Cond.constant RX6 79 (500000000)]
def wsX6_layBehind_r3 : List Cond := [Cond.constant RX6 97 (4000000), Cond.constant RX6 101 (999999999), Cond.methodLink RX6 93 yX6_onlyOne, Cond.instanceMethod yX6_onlyOne, Cond.selects RX6 yX6_onlyOne yX6_onlyOne, Cond.code yX6_onlyOne cX6_onlyOne 6 (some .int), Cond.methodLink RX6 98 yX6_progressOf, Cond.instanceMethod yX6_progressOf, Cond.selects RX6 yX6_progressOf yX6_progressOf, Cond.code yX6_progressOf cX6_progressOf 6 (some .int), Cond.methodLink RX6 121 yX6_goesOn, Cond.instanceMethod yX6_goesOn, Cond.selects RX6 yX6_goesOn yX6_goesOn, Cond.code yX6_goesOn cX6_goesOn 6 (some .boolean), Cond.methodLink RX6 106 yX6_copies, Cond.instanceMethod yX6_copies, Cond.selects RX6 yX6_copies yX6_copies, Cond.code yX6_copies cX6_copies 3 none, Cond.methodLink RX6 124 yX6_takes, Cond.instanceMethod yX6_takes, Cond.selects RX6 yX6_takes yX6_takes, Cond.code yX6_takes cX6_takes 5 none]
def wsX6_layBehind : List Cond := .code yX6_layBehind cX6_layBehind 7 none :: ((wsX6_layBehind_r1 ++ (wsX6_layBehind_r2 ++ wsX6_layBehind_r3)) ++ wsX60)
def wsX6_worthNow_r1 : List Cond := [Cond.fieldLink RX6 13 "RoyalUrTableModel" "won" "I", Cond.fieldLink RX6 128 "RoyalUrTableModel" "side" "I", Cond.constant RX6 71 (1000000000), Cond.fieldLink RX6 9 "RoyalUrTableModel" "told" "I", Cond.fieldLink RX6 54 "RoyalUrTableModel" "behind" "[I", Cond.methodLink RX6 131 yX6_lays, Cond.instanceMethod yX6_lays, Cond.selects RX6 yX6_lays yX6_lays, Cond.initialized RX6, Cond.code yX6_lays cX6_lays 2 none, Cond.fieldLink RX6 35 "RoyalUrTableModel" "walk" "[I", Cond.fieldLink RX6 20 "RoyalUrTableModel" "at" "[I", Cond.methodLink RX6 134 yX6_worthOf, Cond.instanceMethod yX6_worthOf, Cond.selects RX6 yX6_worthOf yX6_worthOf, Cond.code yX6_worthOf cX6_worthOf 5 (some .int), Cond.fieldLink RX6 38 "RoyalUrTableModel" "sides" "[I", Cond.fieldLink RX6 50 "RoyalUrTableModel" "sums" "[J", Cond.fieldLink RX6 23 "RoyalUrTableModel" "times" "[I", Cond.fieldLink RX6 41 "RoyalUrTableModel" "marks" "[I", Cond.fieldLink RX6 47 "RoyalUrTableModel" "best" "[I", Cond.fieldLink RX6 44 "RoyalUrTableModel" "next" "[I", Cond.constantLong RX6 84 (16), Cond.methodLink RX6 113 yX6_enters]
def wsX6_worthNow_r2 : List Cond := [Cond.instanceMethod yX6_enters, Cond.selects RX6 yX6_enters yX6_enters, Cond.code yX6_enters cX6_enters 3 none, Cond.methodLink RX6 117 yX6_leaf, Cond.instanceMethod yX6_leaf, Cond.selects RX6 yX6_leaf yX6_leaf, Cond.code yX6_leaf cX6_leaf 6 (some .int), Cond.fieldLink RX6 32 "RoyalUrTableModel" "forty" "[I", Cond.constant RX6 79 (500000000), Cond.constant RX6 97 (4000000), Cond.constant RX6 101 (999999999), Cond.methodLink RX6 93 yX6_onlyOne, Cond.instanceMethod yX6_onlyOne, Cond.selects RX6 yX6_onlyOne yX6_onlyOne, Cond.code yX6_onlyOne cX6_onlyOne 6 (some .int), Cond.fieldLink RX6 90 "RoyalUrTableModel" "pieces" "I", Cond.methodLink RX6 98 yX6_progressOf, Cond.instanceMethod yX6_progressOf, Cond.selects RX6 yX6_progressOf yX6_progressOf, Cond.code yX6_progressOf cX6_progressOf 6 (some .int), Cond.methodLink RX6 121 yX6_goesOn, Cond.instanceMethod yX6_goesOn, Cond.selects RX6 yX6_goesOn yX6_goesOn, Cond.code yX6_goesOn cX6_goesOn 6 (some .boolean)]
def wsX6_worthNow_r3 : List Cond := [Cond.methodLink RX6 102 yX6_canMove, Cond.static yX6_canMove, Cond.code yX6_canMove cX6_canMove 7 (some .boolean), Cond.methodLink RX6 106 yX6_copies, Cond.instanceMethod yX6_copies, Cond.selects RX6 yX6_copies yX6_copies, Cond.code yX6_copies cX6_copies 3 none, Cond.methodLink RX6 109 yX6_shifts, Cond.static yX6_shifts, Cond.code yX6_shifts cX6_shifts 8 (some .int), Cond.methodLink RX6 72 yX6_isShared, Cond.static yX6_isShared, Cond.code yX6_isShared cX6_isShared 1 (some .boolean), Cond.methodLink RX6 67 yX6_in, Cond.static yX6_in, Cond.code yX6_in cX6_in 3 (some .boolean), Cond.methodLink RX6 76 yX6_isRosette, Cond.static yX6_isRosette, Cond.code yX6_isRosette cX6_isRosette 1 (some .boolean), Cond.methodLink RX6 124 yX6_takes, Cond.instanceMethod yX6_takes, Cond.selects RX6 yX6_takes yX6_takes, Cond.code yX6_takes cX6_takes 5 none, Cond.methodLink RX6 137 yX6_layBehind]
def wsX6_worthNow_r4 : List Cond := [Cond.instanceMethod yX6_layBehind, Cond.selects RX6 yX6_layBehind yX6_layBehind, Cond.code yX6_layBehind cX6_layBehind 7 none]
def wsX6_worthNow : List Cond := .code yX6_worthNow cX6_worthNow 4 (some .int) :: ((wsX6_worthNow_r1 ++ (wsX6_worthNow_r2 ++ (wsX6_worthNow_r3 ++ wsX6_worthNow_r4))) ++ wsX60)
def wsX6_begin : List Cond := .code yX6_begin cX6_begin 2 none :: ([.fieldLink RX6 64 "RoyalUrTableModel" "thrown" "I", .methodLink RX6 67 yX6_in, .static yX6_in, .initialized RX6, .code yX6_in cX6_in 3 (some .boolean), .methodLink RX6 61 yX6_starts, .instanceMethod yX6_starts, .selects RX6 yX6_starts yX6_starts, .code yX6_starts cX6_starts 3 none, .fieldLink RX6 90 "RoyalUrTableModel" "pieces" "I", .fieldLink RX6 128 "RoyalUrTableModel" "side" "I", .fieldLink RX6 9 "RoyalUrTableModel" "told" "I", .fieldLink RX6 13 "RoyalUrTableModel" "won" "I", .fieldLink RX6 140 "RoyalUrTableModel" "count" "I", .fieldLink RX6 20 "RoyalUrTableModel" "at" "[I", .fieldLink RX6 16 "RoyalUrTableModel" "lost" "[I"] ++ wsX60)
def wsX6_countMoves : List Cond := .code yX6_countMoves cX6_countMoves 4 (some .int) :: ([.fieldLink RX6 20 "RoyalUrTableModel" "at" "[I", .fieldLink RX6 128 "RoyalUrTableModel" "side" "I", .methodLink RX6 102 yX6_canMove, .static yX6_canMove, .initialized RX6, .code yX6_canMove cX6_canMove 7 (some .boolean)] ++ wsX60)
def wsX6_tell : List Cond := .code yX6_tell cX6_tell 3 (some .int) :: ([.fieldLink RX6 64 "RoyalUrTableModel" "thrown" "I", .fieldLink RX6 13 "RoyalUrTableModel" "won" "I", .fieldLink RX6 9 "RoyalUrTableModel" "told" "I", .fieldLink RX6 140 "RoyalUrTableModel" "count" "I", .fieldLink RX6 128 "RoyalUrTableModel" "side" "I", .methodLink RX6 67 yX6_in, .static yX6_in, .initialized RX6, .code yX6_in cX6_in 3 (some .boolean), .methodLink RX6 143 yX6_fails, .instanceMethod yX6_fails, .selects RX6 yX6_fails yX6_fails, .code yX6_fails cX6_fails 2 (some .int), .methodLink RX6 147 yX6_countMoves, .instanceMethod yX6_countMoves, .selects RX6 yX6_countMoves yX6_countMoves, .code yX6_countMoves cX6_countMoves 4 (some .int), .fieldLink RX6 20 "RoyalUrTableModel" "at" "[I", .methodLink RX6 102 yX6_canMove, .static yX6_canMove, .code yX6_canMove cX6_canMove 7 (some .boolean)] ++ wsX60)
def wsX6_move_r1 : List Cond := [Cond.fieldLink RX6 64 "RoyalUrTableModel" "thrown" "I", Cond.fieldLink RX6 9 "RoyalUrTableModel" "told" "I", Cond.fieldLink RX6 20 "RoyalUrTableModel" "at" "[I", Cond.fieldLink RX6 128 "RoyalUrTableModel" "side" "I", Cond.fieldLink RX6 16 "RoyalUrTableModel" "lost" "[I", Cond.fieldLink RX6 90 "RoyalUrTableModel" "pieces" "I", Cond.fieldLink RX6 13 "RoyalUrTableModel" "won" "I", Cond.methodLink RX6 67 yX6_in, Cond.static yX6_in, Cond.initialized RX6, Cond.code yX6_in cX6_in 3 (some .boolean), Cond.methodLink RX6 143 yX6_fails, Cond.instanceMethod yX6_fails, Cond.selects RX6 yX6_fails yX6_fails, Cond.code yX6_fails cX6_fails 2 (some .int), Cond.methodLink RX6 102 yX6_canMove, Cond.static yX6_canMove, Cond.code yX6_canMove cX6_canMove 7 (some .boolean), Cond.methodLink RX6 109 yX6_shifts, Cond.static yX6_shifts, Cond.code yX6_shifts cX6_shifts 8 (some .int), Cond.methodLink RX6 72 yX6_isShared, Cond.static yX6_isShared, Cond.code yX6_isShared cX6_isShared 1 (some .boolean)]
def wsX6_move_r2 : List Cond := [Cond.methodLink RX6 76 yX6_isRosette, Cond.static yX6_isRosette, Cond.code yX6_isRosette cX6_isRosette 1 (some .boolean)]
def wsX6_move : List Cond := .code yX6_move cX6_move 3 (some .int) :: ((wsX6_move_r1 ++ wsX6_move_r2) ++ wsX60)
def wsX6_turn : List Cond := .code yX6_turn cX6_turn 1 (some .int) :: ([.fieldLink RX6 64 "RoyalUrTableModel" "thrown" "I", .fieldLink RX6 128 "RoyalUrTableModel" "side" "I"] ++ wsX60)
def wsX6_marks : List Cond := .code yX6_marks cX6_marks 1 (some .int) :: ([.fieldLink RX6 64 "RoyalUrTableModel" "thrown" "I", .fieldLink RX6 9 "RoyalUrTableModel" "told" "I"] ++ wsX60)
def wsX6_winner : List Cond := .code yX6_winner cX6_winner 1 (some .int) :: ([.fieldLink RX6 64 "RoyalUrTableModel" "thrown" "I", .fieldLink RX6 13 "RoyalUrTableModel" "won" "I"] ++ wsX60)
def wsX6_at : List Cond := .code yX6_at cX6_at 3 (some .int) :: ([.fieldLink RX6 64 "RoyalUrTableModel" "thrown" "I", .fieldLink RX6 20 "RoyalUrTableModel" "at" "[I", .methodLink RX6 67 yX6_in, .static yX6_in, .initialized RX6, .code yX6_in cX6_in 3 (some .boolean), .methodLink RX6 143 yX6_fails, .instanceMethod yX6_fails, .selects RX6 yX6_fails yX6_fails, .code yX6_fails cX6_fails 2 (some .int)] ++ wsX60)
def wsX6_progress : List Cond := .code yX6_progress cX6_progress 2 (some .int) :: ([.fieldLink RX6 64 "RoyalUrTableModel" "thrown" "I", .fieldLink RX6 20 "RoyalUrTableModel" "at" "[I", .methodLink RX6 67 yX6_in, .static yX6_in, .initialized RX6, .code yX6_in cX6_in 3 (some .boolean), .methodLink RX6 98 yX6_progressOf, .instanceMethod yX6_progressOf, .selects RX6 yX6_progressOf yX6_progressOf, .code yX6_progressOf cX6_progressOf 6 (some .int), .methodLink RX6 143 yX6_fails, .instanceMethod yX6_fails, .selects RX6 yX6_fails yX6_fails, .code yX6_fails cX6_fails 2 (some .int)] ++ wsX60)
def wsX6_captured : List Cond := .code yX6_captured cX6_captured 2 (some .int) :: ([.fieldLink RX6 64 "RoyalUrTableModel" "thrown" "I", .fieldLink RX6 16 "RoyalUrTableModel" "lost" "[I", .methodLink RX6 67 yX6_in, .static yX6_in, .initialized RX6, .code yX6_in cX6_in 3 (some .boolean), .methodLink RX6 143 yX6_fails, .instanceMethod yX6_fails, .selects RX6 yX6_fails yX6_fails, .code yX6_fails cX6_fails 2 (some .int)] ++ wsX60)
def wsX6_throwsTold : List Cond := .code yX6_throwsTold cX6_throwsTold 1 (some .int) :: ([.fieldLink RX6 64 "RoyalUrTableModel" "thrown" "I", .fieldLink RX6 140 "RoyalUrTableModel" "count" "I"] ++ wsX60)
def wsX6_moves : List Cond := .code yX6_moves cX6_moves 1 (some .int) :: ([.fieldLink RX6 64 "RoyalUrTableModel" "thrown" "I", .fieldLink RX6 9 "RoyalUrTableModel" "told" "I", .methodLink RX6 147 yX6_countMoves, .instanceMethod yX6_countMoves, .selects RX6 yX6_countMoves yX6_countMoves, .initialized RX6, .code yX6_countMoves cX6_countMoves 4 (some .int), .fieldLink RX6 20 "RoyalUrTableModel" "at" "[I", .fieldLink RX6 128 "RoyalUrTableModel" "side" "I", .methodLink RX6 102 yX6_canMove, .static yX6_canMove, .code yX6_canMove cX6_canMove 7 (some .boolean)] ++ wsX60)
def wsX6_moveAt : List Cond := .code yX6_moveAt cX6_moveAt 5 (some .int) :: ([.fieldLink RX6 64 "RoyalUrTableModel" "thrown" "I", .fieldLink RX6 9 "RoyalUrTableModel" "told" "I", .fieldLink RX6 20 "RoyalUrTableModel" "at" "[I", .fieldLink RX6 128 "RoyalUrTableModel" "side" "I", .methodLink RX6 102 yX6_canMove, .static yX6_canMove, .initialized RX6, .code yX6_canMove cX6_canMove 7 (some .boolean)] ++ wsX60)
def wsX6_captures : List Cond := .code yX6_captures cX6_captures 2 (some .boolean) :: ([.fieldLink RX6 64 "RoyalUrTableModel" "thrown" "I", .fieldLink RX6 9 "RoyalUrTableModel" "told" "I", .fieldLink RX6 20 "RoyalUrTableModel" "at" "[I", .fieldLink RX6 128 "RoyalUrTableModel" "side" "I", .methodLink RX6 67 yX6_in, .static yX6_in, .initialized RX6, .code yX6_in cX6_in 3 (some .boolean), .methodLink RX6 102 yX6_canMove, .static yX6_canMove, .code yX6_canMove cX6_canMove 7 (some .boolean), .methodLink RX6 72 yX6_isShared, .static yX6_isShared, .code yX6_isShared cX6_isShared 1 (some .boolean)] ++ wsX60)
def wsX6_worth_r1 : List Cond := [Cond.fieldLink RX6 64 "RoyalUrTableModel" "thrown" "I", Cond.fieldLink RX6 128 "RoyalUrTableModel" "side" "I", Cond.constant RX6 71 (1000000000), Cond.methodLink RX6 67 yX6_in, Cond.static yX6_in, Cond.initialized RX6, Cond.code yX6_in cX6_in 3 (some .boolean), Cond.methodLink RX6 143 yX6_fails, Cond.instanceMethod yX6_fails, Cond.selects RX6 yX6_fails yX6_fails, Cond.code yX6_fails cX6_fails 2 (some .int), Cond.methodLink RX6 150 yX6_worthNow, Cond.instanceMethod yX6_worthNow, Cond.selects RX6 yX6_worthNow yX6_worthNow, Cond.code yX6_worthNow cX6_worthNow 4 (some .int), Cond.fieldLink RX6 13 "RoyalUrTableModel" "won" "I", Cond.fieldLink RX6 9 "RoyalUrTableModel" "told" "I", Cond.fieldLink RX6 54 "RoyalUrTableModel" "behind" "[I", Cond.methodLink RX6 131 yX6_lays, Cond.instanceMethod yX6_lays, Cond.selects RX6 yX6_lays yX6_lays, Cond.code yX6_lays cX6_lays 2 none, Cond.fieldLink RX6 35 "RoyalUrTableModel" "walk" "[I", Cond.fieldLink RX6 20 "RoyalUrTableModel" "at" "[I"]
def wsX6_worth_r2 : List Cond := [Cond.methodLink RX6 134 yX6_worthOf, Cond.instanceMethod yX6_worthOf, Cond.selects RX6 yX6_worthOf yX6_worthOf, Cond.code yX6_worthOf cX6_worthOf 5 (some .int), Cond.fieldLink RX6 38 "RoyalUrTableModel" "sides" "[I", Cond.fieldLink RX6 50 "RoyalUrTableModel" "sums" "[J", Cond.fieldLink RX6 23 "RoyalUrTableModel" "times" "[I", Cond.fieldLink RX6 41 "RoyalUrTableModel" "marks" "[I", Cond.fieldLink RX6 47 "RoyalUrTableModel" "best" "[I", Cond.fieldLink RX6 44 "RoyalUrTableModel" "next" "[I", Cond.constantLong RX6 84 (16), Cond.methodLink RX6 113 yX6_enters, Cond.instanceMethod yX6_enters, Cond.selects RX6 yX6_enters yX6_enters, Cond.code yX6_enters cX6_enters 3 none, Cond.methodLink RX6 117 yX6_leaf, Cond.instanceMethod yX6_leaf, Cond.selects RX6 yX6_leaf yX6_leaf, Cond.code yX6_leaf cX6_leaf 6 (some .int), Cond.fieldLink RX6 32 "RoyalUrTableModel" "forty" "[I", Cond.constant RX6 79 (500000000), Cond.constant RX6 97 (4000000), Cond.constant RX6 101 (999999999), Cond.methodLink RX6 93 yX6_onlyOne]
def wsX6_worth_r3 : List Cond := [Cond.instanceMethod yX6_onlyOne, Cond.selects RX6 yX6_onlyOne yX6_onlyOne, Cond.code yX6_onlyOne cX6_onlyOne 6 (some .int), Cond.fieldLink RX6 90 "RoyalUrTableModel" "pieces" "I", Cond.methodLink RX6 98 yX6_progressOf, Cond.instanceMethod yX6_progressOf, Cond.selects RX6 yX6_progressOf yX6_progressOf, Cond.code yX6_progressOf cX6_progressOf 6 (some .int), Cond.methodLink RX6 121 yX6_goesOn, Cond.instanceMethod yX6_goesOn, Cond.selects RX6 yX6_goesOn yX6_goesOn, Cond.code yX6_goesOn cX6_goesOn 6 (some .boolean), Cond.methodLink RX6 102 yX6_canMove, Cond.static yX6_canMove, Cond.code yX6_canMove cX6_canMove 7 (some .boolean), Cond.methodLink RX6 106 yX6_copies, Cond.instanceMethod yX6_copies, Cond.selects RX6 yX6_copies yX6_copies, Cond.code yX6_copies cX6_copies 3 none, Cond.methodLink RX6 109 yX6_shifts, Cond.static yX6_shifts, Cond.code yX6_shifts cX6_shifts 8 (some .int), Cond.methodLink RX6 72 yX6_isShared, Cond.static yX6_isShared]
def wsX6_worth_r4 : List Cond := [Cond.code yX6_isShared cX6_isShared 1 (some .boolean), Cond.methodLink RX6 76 yX6_isRosette, Cond.static yX6_isRosette, Cond.code yX6_isRosette cX6_isRosette 1 (some .boolean), Cond.methodLink RX6 124 yX6_takes, Cond.instanceMethod yX6_takes, Cond.selects RX6 yX6_takes yX6_takes, Cond.code yX6_takes cX6_takes 5 none, Cond.methodLink RX6 137 yX6_layBehind, Cond.instanceMethod yX6_layBehind, Cond.selects RX6 yX6_layBehind yX6_layBehind, Cond.code yX6_layBehind cX6_layBehind 7 none]
def wsX6_worth : List Cond := .code yX6_worth cX6_worth 2 (some .int) :: ((wsX6_worth_r1 ++ (wsX6_worth_r2 ++ (wsX6_worth_r3 ++ wsX6_worth_r4))) ++ wsX60)
def wsX6_chance_r1 : List Cond := [Cond.fieldLink RX6 64 "RoyalUrTableModel" "thrown" "I", Cond.constantDouble RX6 153 (4741671816366391296), Cond.methodLink RX6 67 yX6_in, Cond.static yX6_in, Cond.initialized RX6, Cond.code yX6_in cX6_in 3 (some .boolean), Cond.methodLink RX6 143 yX6_fails, Cond.instanceMethod yX6_fails, Cond.selects RX6 yX6_fails yX6_fails, Cond.code yX6_fails cX6_fails 2 (some .int), Cond.methodLink RX6 150 yX6_worthNow, Cond.instanceMethod yX6_worthNow, Cond.selects RX6 yX6_worthNow yX6_worthNow, Cond.code yX6_worthNow cX6_worthNow 4 (some .int), Cond.fieldLink RX6 13 "RoyalUrTableModel" "won" "I", Cond.fieldLink RX6 128 "RoyalUrTableModel" "side" "I", Cond.constant RX6 71 (1000000000), Cond.fieldLink RX6 9 "RoyalUrTableModel" "told" "I", Cond.fieldLink RX6 54 "RoyalUrTableModel" "behind" "[I", Cond.methodLink RX6 131 yX6_lays, Cond.instanceMethod yX6_lays, Cond.selects RX6 yX6_lays yX6_lays, Cond.code yX6_lays cX6_lays 2 none, Cond.fieldLink RX6 35 "RoyalUrTableModel" "walk" "[I"]
def wsX6_chance_r2 : List Cond := [Cond.fieldLink RX6 20 "RoyalUrTableModel" "at" "[I", Cond.methodLink RX6 134 yX6_worthOf, Cond.instanceMethod yX6_worthOf, Cond.selects RX6 yX6_worthOf yX6_worthOf, Cond.code yX6_worthOf cX6_worthOf 5 (some .int), Cond.fieldLink RX6 38 "RoyalUrTableModel" "sides" "[I", Cond.fieldLink RX6 50 "RoyalUrTableModel" "sums" "[J", Cond.fieldLink RX6 23 "RoyalUrTableModel" "times" "[I", Cond.fieldLink RX6 41 "RoyalUrTableModel" "marks" "[I", Cond.fieldLink RX6 47 "RoyalUrTableModel" "best" "[I", Cond.fieldLink RX6 44 "RoyalUrTableModel" "next" "[I", Cond.constantLong RX6 84 (16), Cond.methodLink RX6 113 yX6_enters, Cond.instanceMethod yX6_enters, Cond.selects RX6 yX6_enters yX6_enters, Cond.code yX6_enters cX6_enters 3 none, Cond.methodLink RX6 117 yX6_leaf, Cond.instanceMethod yX6_leaf, Cond.selects RX6 yX6_leaf yX6_leaf, Cond.code yX6_leaf cX6_leaf 6 (some .int), Cond.fieldLink RX6 32 "RoyalUrTableModel" "forty" "[I", Cond.constant RX6 79 (500000000), Cond.constant RX6 97 (4000000), Cond.constant RX6 101 (999999999)]
def wsX6_chance_r3 : List Cond := [Cond.methodLink RX6 93 yX6_onlyOne, Cond.instanceMethod yX6_onlyOne, Cond.selects RX6 yX6_onlyOne yX6_onlyOne, Cond.code yX6_onlyOne cX6_onlyOne 6 (some .int), Cond.fieldLink RX6 90 "RoyalUrTableModel" "pieces" "I", Cond.methodLink RX6 98 yX6_progressOf, Cond.instanceMethod yX6_progressOf, Cond.selects RX6 yX6_progressOf yX6_progressOf, Cond.code yX6_progressOf cX6_progressOf 6 (some .int), Cond.methodLink RX6 121 yX6_goesOn, Cond.instanceMethod yX6_goesOn, Cond.selects RX6 yX6_goesOn yX6_goesOn, Cond.code yX6_goesOn cX6_goesOn 6 (some .boolean), Cond.methodLink RX6 102 yX6_canMove, Cond.static yX6_canMove, Cond.code yX6_canMove cX6_canMove 7 (some .boolean), Cond.methodLink RX6 106 yX6_copies, Cond.instanceMethod yX6_copies, Cond.selects RX6 yX6_copies yX6_copies, Cond.code yX6_copies cX6_copies 3 none, Cond.methodLink RX6 109 yX6_shifts, Cond.static yX6_shifts, Cond.code yX6_shifts cX6_shifts 8 (some .int), Cond.methodLink RX6 72 yX6_isShared]
def wsX6_chance_r4 : List Cond := [Cond.static yX6_isShared, Cond.code yX6_isShared cX6_isShared 1 (some .boolean), Cond.methodLink RX6 76 yX6_isRosette, Cond.static yX6_isRosette, Cond.code yX6_isRosette cX6_isRosette 1 (some .boolean), Cond.methodLink RX6 124 yX6_takes, Cond.instanceMethod yX6_takes, Cond.selects RX6 yX6_takes yX6_takes, Cond.code yX6_takes cX6_takes 5 none, Cond.methodLink RX6 137 yX6_layBehind, Cond.instanceMethod yX6_layBehind, Cond.selects RX6 yX6_layBehind yX6_layBehind, Cond.code yX6_layBehind cX6_layBehind 7 none]
def wsX6_chance : List Cond := .code yX6_chance cX6_chance 2 (some .double) :: ((wsX6_chance_r1 ++ (wsX6_chance_r2 ++ (wsX6_chance_r3 ++ wsX6_chance_r4))) ++ wsX60)
def wsX6_ranked_r1 : List Cond := [Cond.fieldLink RX6 64 "RoyalUrTableModel" "thrown" "I", Cond.fieldLink RX6 54 "RoyalUrTableModel" "behind" "[I", Cond.methodLink RX6 67 yX6_in, Cond.static yX6_in, Cond.initialized RX6, Cond.code yX6_in cX6_in 3 (some .boolean), Cond.methodLink RX6 143 yX6_fails, Cond.instanceMethod yX6_fails, Cond.selects RX6 yX6_fails yX6_fails, Cond.code yX6_fails cX6_fails 2 (some .int), Cond.methodLink RX6 137 yX6_layBehind, Cond.instanceMethod yX6_layBehind, Cond.selects RX6 yX6_layBehind yX6_layBehind, Cond.code yX6_layBehind cX6_layBehind 7 none, Cond.fieldLink RX6 9 "RoyalUrTableModel" "told" "I", Cond.fieldLink RX6 20 "RoyalUrTableModel" "at" "[I", Cond.fieldLink RX6 128 "RoyalUrTableModel" "side" "I", Cond.fieldLink RX6 35 "RoyalUrTableModel" "walk" "[I", Cond.fieldLink RX6 90 "RoyalUrTableModel" "pieces" "I", Cond.constant RX6 71 (1000000000), Cond.methodLink RX6 102 yX6_canMove, Cond.static yX6_canMove, Cond.code yX6_canMove cX6_canMove 7 (some .boolean), Cond.methodLink RX6 131 yX6_lays]
def wsX6_ranked_r2 : List Cond := [Cond.instanceMethod yX6_lays, Cond.selects RX6 yX6_lays yX6_lays, Cond.code yX6_lays cX6_lays 2 none, Cond.methodLink RX6 109 yX6_shifts, Cond.static yX6_shifts, Cond.code yX6_shifts cX6_shifts 8 (some .int), Cond.methodLink RX6 72 yX6_isShared, Cond.static yX6_isShared, Cond.code yX6_isShared cX6_isShared 1 (some .boolean), Cond.methodLink RX6 76 yX6_isRosette, Cond.static yX6_isRosette, Cond.code yX6_isRosette cX6_isRosette 1 (some .boolean), Cond.methodLink RX6 134 yX6_worthOf, Cond.instanceMethod yX6_worthOf, Cond.selects RX6 yX6_worthOf yX6_worthOf, Cond.code yX6_worthOf cX6_worthOf 5 (some .int), Cond.fieldLink RX6 38 "RoyalUrTableModel" "sides" "[I", Cond.fieldLink RX6 50 "RoyalUrTableModel" "sums" "[J", Cond.fieldLink RX6 23 "RoyalUrTableModel" "times" "[I", Cond.fieldLink RX6 41 "RoyalUrTableModel" "marks" "[I", Cond.fieldLink RX6 47 "RoyalUrTableModel" "best" "[I", Cond.fieldLink RX6 44 "RoyalUrTableModel" "next" "[I", Cond.constantLong RX6 84 (16), Cond.methodLink RX6 113 yX6_enters]
def wsX6_ranked_r3 : List Cond := [Cond.instanceMethod yX6_enters, Cond.selects RX6 yX6_enters yX6_enters, Cond.code yX6_enters cX6_enters 3 none, Cond.methodLink RX6 117 yX6_leaf, Cond.instanceMethod yX6_leaf, Cond.selects RX6 yX6_leaf yX6_leaf, Cond.code yX6_leaf cX6_leaf 6 (some .int), Cond.fieldLink RX6 32 "RoyalUrTableModel" "forty" "[I", Cond.constant RX6 79 (500000000), Cond.constant RX6 97 (4000000), Cond.constant RX6 101 (999999999), Cond.methodLink RX6 93 yX6_onlyOne, Cond.instanceMethod yX6_onlyOne, Cond.selects RX6 yX6_onlyOne yX6_onlyOne, Cond.code yX6_onlyOne cX6_onlyOne 6 (some .int), Cond.methodLink RX6 98 yX6_progressOf, Cond.instanceMethod yX6_progressOf, Cond.selects RX6 yX6_progressOf yX6_progressOf, Cond.code yX6_progressOf cX6_progressOf 6 (some .int), Cond.methodLink RX6 121 yX6_goesOn, Cond.instanceMethod yX6_goesOn, Cond.selects RX6 yX6_goesOn yX6_goesOn, Cond.code yX6_goesOn cX6_goesOn 6 (some .boolean), Cond.methodLink RX6 106 yX6_copies]
def wsX6_ranked_r4 : List Cond := [Cond.instanceMethod yX6_copies, Cond.selects RX6 yX6_copies yX6_copies, Cond.code yX6_copies cX6_copies 3 none, Cond.methodLink RX6 124 yX6_takes, Cond.instanceMethod yX6_takes, Cond.selects RX6 yX6_takes yX6_takes, Cond.code yX6_takes cX6_takes 5 none]
def wsX6_ranked : List Cond := .code yX6_ranked cX6_ranked 8 (some .int) :: ((wsX6_ranked_r1 ++ (wsX6_ranked_r2 ++ (wsX6_ranked_r3 ++ wsX6_ranked_r4))) ++ wsX60)
def wsJ9_max_7cf53 : List Cond := .code yJ9_max_7cf53 cJ9_max_7cf53 2 (some .int) :: ([])
def wsJ9_min_7cf53 : List Cond := .code yJ9_min_7cf53 cJ9_min_7cf53 2 (some .int) :: ([])
def wsL_begin_r1 : List Cond := [Cond.classLink RL 13 "java/lang/IllegalArgumentException", Cond.methodLink RL 7 yX5_begin, Cond.instanceMethod yX5_begin, Cond.selects RX5 yX5_begin yX5_begin, Cond.initialized RX5, Cond.code yX5_begin cX5_begin 2 none, Cond.methodLink RX5 36 yX5_refuseOutside, Cond.static yX5_refuseOutside, Cond.code yX5_refuseOutside cX5_refuseOutside 3 none, Cond.classLink RX5 108 "java/lang/IllegalArgumentException", Cond.initialized "java/lang/IllegalArgumentException", Cond.methodLink RX5 32 yX5_setUp, Cond.instanceMethod yX5_setUp, Cond.selects RX5 yX5_setUp yX5_setUp, Cond.code yX5_setUp cX5_setUp 2 none, Cond.fieldLink RX5 135 "RoyalUrTable" "piecesOfEach" "I", Cond.fieldLink RX5 10 "RoyalUrTable" "side0" "LRoyalUrTable$Side;", Cond.fieldLink RX5 70 "RoyalUrTable$Side" "layout" "J", Cond.fieldLink RX5 16 "RoyalUrTable" "side1" "LRoyalUrTable$Side;", Cond.fieldLink RX5 84 "RoyalUrTable$Side" "lost" "I", Cond.fieldLink RX5 59 "RoyalUrTable" "turn" "I", Cond.fieldLink RX5 46 "RoyalUrTable" "marksTold" "I", Cond.fieldLink RX5 42 "RoyalUrTable" "winner" "I", Cond.fieldLink RX5 52 "RoyalUrTable" "throwsTold" "I"]
def wsL_begin_r2 : List Cond := [Cond.methodLink RX5 138 yX2_allAtStart, Cond.static yX2_allAtStart, Cond.initialized RX2, Cond.code yX2_allAtStart cX2_allAtStart 1 (some .long)]
def wsL_begin : List Cond := .codeWith yL_begin cL_begin 3 (some .int) [(0, 5, 8, 13)] :: ((wsL_begin_r1 ++ wsL_begin_r2) ++ wsX50 ++ wsX30 ++ (vx_at0 RX5 110 "java/lang/IllegalArgumentException" ["java/lang/RuntimeException", "java/lang/Exception"]).filter goodWord)
def wsL_tell_r1 : List Cond := [Cond.classLink RL 13 "java/lang/IllegalArgumentException", Cond.classLink RL 19 "java/lang/IllegalStateException", Cond.methodLink RL 15 yX5_tell, Cond.instanceMethod yX5_tell, Cond.selects RX5 yX5_tell yX5_tell, Cond.initialized RX5, Cond.code yX5_tell cX5_tell 3 (some .int), Cond.classLink RX5 49 "java/lang/IllegalStateException", Cond.initialized "java/lang/IllegalStateException", Cond.fieldLink RX5 42 "RoyalUrTable" "winner" "I", Cond.fieldLink RX5 46 "RoyalUrTable" "marksTold" "I", Cond.fieldLink RX5 52 "RoyalUrTable" "throwsTold" "I", Cond.fieldLink RX5 59 "RoyalUrTable" "turn" "I", Cond.methodLink RX5 36 yX5_refuseOutside, Cond.static yX5_refuseOutside, Cond.code yX5_refuseOutside cX5_refuseOutside 3 none, Cond.classLink RX5 108 "java/lang/IllegalArgumentException", Cond.initialized "java/lang/IllegalArgumentException", Cond.methodLink RX5 55 yX5_countMoves, Cond.instanceMethod yX5_countMoves, Cond.selects RX5 yX5_countMoves yX5_countMoves, Cond.code yX5_countMoves cX5_countMoves 8 (some .int), Cond.fieldLink RX5 70 "RoyalUrTable$Side" "layout" "J", Cond.methodLink RX5 66 yX5_sideOf]
def wsL_tell_r2 : List Cond := [Cond.instanceMethod yX5_sideOf, Cond.selects RX5 yX5_sideOf yX5_sideOf, Cond.code yX5_sideOf cX5_sideOf 2 (some (.object "RoyalUrTable$Side")), Cond.fieldLink RX5 10 "RoyalUrTable" "side0" "LRoyalUrTable$Side;", Cond.fieldLink RX5 16 "RoyalUrTable" "side1" "LRoyalUrTable$Side;", Cond.methodLink RX5 142 yX2_canMove, Cond.static yX2_canMove, Cond.initialized RX2, Cond.code yX2_canMove cX2_canMove 7 (some .boolean), Cond.methodLink RX2 13 yX2_countAt, Cond.static yX2_countAt, Cond.code yX2_countAt cX2_countAt 3 (some .int), Cond.methodLink RX2 17 yX4_canEnter, Cond.static yX4_canEnter, Cond.initialized RX4, Cond.code yX4_canEnter cX4_canEnter 3 (some .boolean)]
def wsL_tell : List Cond := .codeWith yL_tell cL_tell 4 (some .int) [(0, 9, 12, 13), (0, 9, 15, 19)] :: ((wsL_tell_r1 ++ wsL_tell_r2) ++ wsX50 ++ wsX30 ++ (vx_at0 RX5 51 "java/lang/IllegalStateException" ["java/lang/RuntimeException", "java/lang/Exception"]).filter goodWord ++ (vx_at0 RX5 110 "java/lang/IllegalArgumentException" ["java/lang/RuntimeException", "java/lang/Exception"]).filter goodWord)
def wsL_move_r1 : List Cond := [Cond.classLink RL 13 "java/lang/IllegalArgumentException", Cond.classLink RL 19 "java/lang/IllegalStateException", Cond.methodLink RL 21 yX5_move, Cond.instanceMethod yX5_move, Cond.selects RX5 yX5_move yX5_move, Cond.initialized RX5, Cond.code yX5_move cX5_move 5 (some .int), Cond.classLink RX5 49 "java/lang/IllegalStateException", Cond.initialized "java/lang/IllegalStateException", Cond.fieldLink RX5 46 "RoyalUrTable" "marksTold" "I", Cond.fieldLink RX5 59 "RoyalUrTable" "turn" "I", Cond.fieldLink RX5 70 "RoyalUrTable$Side" "layout" "J", Cond.fieldLink RX5 84 "RoyalUrTable$Side" "lost" "I", Cond.fieldLink RX5 42 "RoyalUrTable" "winner" "I", Cond.methodLink RX5 36 yX5_refuseOutside, Cond.static yX5_refuseOutside, Cond.code yX5_refuseOutside cX5_refuseOutside 3 none, Cond.classLink RX5 108 "java/lang/IllegalArgumentException", Cond.initialized "java/lang/IllegalArgumentException", Cond.methodLink RX5 62 yX5_canMoveFrom, Cond.instanceMethod yX5_canMoveFrom, Cond.selects RX5 yX5_canMoveFrom yX5_canMoveFrom, Cond.code yX5_canMoveFrom cX5_canMoveFrom 2 (some .boolean), Cond.methodLink RX5 66 yX5_sideOf]
def wsL_move_r2 : List Cond := [Cond.instanceMethod yX5_sideOf, Cond.selects RX5 yX5_sideOf yX5_sideOf, Cond.code yX5_sideOf cX5_sideOf 2 (some (.object "RoyalUrTable$Side")), Cond.fieldLink RX5 10 "RoyalUrTable" "side0" "LRoyalUrTable$Side;", Cond.fieldLink RX5 16 "RoyalUrTable" "side1" "LRoyalUrTable$Side;", Cond.methodLink RX5 142 yX2_canMove, Cond.static yX2_canMove, Cond.initialized RX2, Cond.code yX2_canMove cX2_canMove 7 (some .boolean), Cond.methodLink RX2 13 yX2_countAt, Cond.static yX2_countAt, Cond.code yX2_countAt cX2_countAt 3 (some .int), Cond.methodLink RX2 17 yX4_canEnter, Cond.static yX4_canEnter, Cond.initialized RX4, Cond.code yX4_canEnter cX4_canEnter 3 (some .boolean), Cond.methodLink RX5 74 yX2_shifted, Cond.static yX2_shifted, Cond.code yX2_shifted cX2_shifted 4 (some .long), Cond.methodLink RX5 80 yX2_canBeTaken, Cond.static yX2_canBeTaken, Cond.code yX2_canBeTaken cX2_canBeTaken 3 (some .boolean), Cond.methodLink RX2 21 yX4_isShared, Cond.static yX4_isShared]
def wsL_move_r3 : List Cond := [Cond.code yX4_isShared cX4_isShared 1 (some .boolean), Cond.methodLink RX5 87 yX2_isAllHome, Cond.static yX2_isAllHome, Cond.code yX2_isAllHome cX2_isAllHome 2 (some .boolean), Cond.constantLong RX2 11 (1152921504606846975), Cond.methodLink RX5 91 yX4_isRosette, Cond.static yX4_isRosette, Cond.code yX4_isRosette cX4_isRosette 1 (some .boolean)]
def wsL_move : List Cond := .codeWith yL_move cL_move 4 (some .int) [(0, 9, 12, 13), (0, 9, 15, 19)] :: ((wsL_move_r1 ++ (wsL_move_r2 ++ wsL_move_r3)) ++ wsX50 ++ wsX30 ++ (vx_at0 RX5 51 "java/lang/IllegalStateException" ["java/lang/RuntimeException", "java/lang/Exception"]).filter goodWord ++ (vx_at0 RX5 110 "java/lang/IllegalArgumentException" ["java/lang/RuntimeException", "java/lang/Exception"]).filter goodWord)
def wsL_at : List Cond := .codeWith yL_at cL_at 5 (some .int) [(0, 10, 13, 13)] :: ([.classLink RL 13 "java/lang/IllegalArgumentException", .methodLink RL 24 yX5_at, .instanceMethod yX5_at, .selects RX5 yX5_at yX5_at, .initialized RX5, .code yX5_at cX5_at 3 (some .int), .fieldLink RX5 70 "RoyalUrTable$Side" "layout" "J", .methodLink RX5 36 yX5_refuseOutside, .static yX5_refuseOutside, .code yX5_refuseOutside cX5_refuseOutside 3 none, .classLink RX5 108 "java/lang/IllegalArgumentException", .initialized "java/lang/IllegalArgumentException", .methodLink RX5 66 yX5_sideOf, .instanceMethod yX5_sideOf, .selects RX5 yX5_sideOf yX5_sideOf, .code yX5_sideOf cX5_sideOf 2 (some (.object "RoyalUrTable$Side")), .fieldLink RX5 10 "RoyalUrTable" "side0" "LRoyalUrTable$Side;", .fieldLink RX5 16 "RoyalUrTable" "side1" "LRoyalUrTable$Side;", .methodLink RX5 94 yX2_countAt, .static yX2_countAt, .initialized RX2, .code yX2_countAt cX2_countAt 3 (some .int)] ++ wsX30 ++ wsX50 ++ (vx_at0 RX5 110 "java/lang/IllegalArgumentException" ["java/lang/RuntimeException", "java/lang/Exception"]).filter goodWord)
def wsL_progress_r1 : List Cond := [Cond.classLink RL 13 "java/lang/IllegalArgumentException", Cond.methodLink RL 28 yX5_progress, Cond.instanceMethod yX5_progress, Cond.selects RX5 yX5_progress yX5_progress, Cond.initialized RX5, Cond.code yX5_progress cX5_progress 2 (some .int), Cond.fieldLink RX5 70 "RoyalUrTable$Side" "layout" "J", Cond.methodLink RX5 36 yX5_refuseOutside, Cond.static yX5_refuseOutside, Cond.code yX5_refuseOutside cX5_refuseOutside 3 none, Cond.classLink RX5 108 "java/lang/IllegalArgumentException", Cond.initialized "java/lang/IllegalArgumentException", Cond.methodLink RX5 66 yX5_sideOf, Cond.instanceMethod yX5_sideOf, Cond.selects RX5 yX5_sideOf yX5_sideOf, Cond.code yX5_sideOf cX5_sideOf 2 (some (.object "RoyalUrTable$Side")), Cond.fieldLink RX5 10 "RoyalUrTable" "side0" "LRoyalUrTable$Side;", Cond.fieldLink RX5 16 "RoyalUrTable" "side1" "LRoyalUrTable$Side;", Cond.methodLink RX5 98 yX2_sumOfPlaces, Cond.static yX2_sumOfPlaces, Cond.initialized RX2, Cond.code yX2_sumOfPlaces cX2_sumOfPlaces 4 (some .int), Cond.methodLink RX2 13 yX2_countAt, Cond.static yX2_countAt]
def wsL_progress_r2 : List Cond := [Cond.code yX2_countAt cX2_countAt 3 (some .int)]
def wsL_progress : List Cond := .codeWith yL_progress cL_progress 4 (some .int) [(0, 9, 12, 13)] :: ((wsL_progress_r1 ++ wsL_progress_r2) ++ wsX30 ++ wsX50 ++ (vx_at0 RX5 110 "java/lang/IllegalArgumentException" ["java/lang/RuntimeException", "java/lang/Exception"]).filter goodWord)
def wsL_captured : List Cond := .codeWith yL_captured cL_captured 4 (some .int) [(0, 9, 12, 13)] :: ([.classLink RL 13 "java/lang/IllegalArgumentException", .methodLink RL 31 yX5_captured, .instanceMethod yX5_captured, .selects RX5 yX5_captured yX5_captured, .initialized RX5, .code yX5_captured cX5_captured 2 (some .int), .fieldLink RX5 84 "RoyalUrTable$Side" "lost" "I", .methodLink RX5 36 yX5_refuseOutside, .static yX5_refuseOutside, .code yX5_refuseOutside cX5_refuseOutside 3 none, .classLink RX5 108 "java/lang/IllegalArgumentException", .initialized "java/lang/IllegalArgumentException", .methodLink RX5 66 yX5_sideOf, .instanceMethod yX5_sideOf, .selects RX5 yX5_sideOf yX5_sideOf, .code yX5_sideOf cX5_sideOf 2 (some (.object "RoyalUrTable$Side")), .fieldLink RX5 10 "RoyalUrTable" "side0" "LRoyalUrTable$Side;", .fieldLink RX5 16 "RoyalUrTable" "side1" "LRoyalUrTable$Side;"] ++ wsX30 ++ wsX50 ++ (vx_at0 RX5 110 "java/lang/IllegalArgumentException" ["java/lang/RuntimeException", "java/lang/Exception"]).filter goodWord)
def wsL_captures_r1 : List Cond := [Cond.classLink RL 13 "java/lang/IllegalArgumentException", Cond.methodLink RL 34 yX5_captures, Cond.instanceMethod yX5_captures, Cond.selects RX5 yX5_captures yX5_captures, Cond.initialized RX5, Cond.code yX5_captures cX5_captures 2 (some .boolean), Cond.fieldLink RX5 59 "RoyalUrTable" "turn" "I", Cond.fieldLink RX5 70 "RoyalUrTable$Side" "layout" "J", Cond.fieldLink RX5 46 "RoyalUrTable" "marksTold" "I", Cond.methodLink RX5 36 yX5_refuseOutside, Cond.static yX5_refuseOutside, Cond.code yX5_refuseOutside cX5_refuseOutside 3 none, Cond.classLink RX5 108 "java/lang/IllegalArgumentException", Cond.initialized "java/lang/IllegalArgumentException", Cond.methodLink RX5 62 yX5_canMoveFrom, Cond.instanceMethod yX5_canMoveFrom, Cond.selects RX5 yX5_canMoveFrom yX5_canMoveFrom, Cond.code yX5_canMoveFrom cX5_canMoveFrom 2 (some .boolean), Cond.methodLink RX5 66 yX5_sideOf, Cond.instanceMethod yX5_sideOf, Cond.selects RX5 yX5_sideOf yX5_sideOf, Cond.code yX5_sideOf cX5_sideOf 2 (some (.object "RoyalUrTable$Side")), Cond.fieldLink RX5 10 "RoyalUrTable" "side0" "LRoyalUrTable$Side;", Cond.fieldLink RX5 16 "RoyalUrTable" "side1" "LRoyalUrTable$Side;"]
def wsL_captures_r2 : List Cond := [Cond.methodLink RX5 142 yX2_canMove, Cond.static yX2_canMove, Cond.initialized RX2, Cond.code yX2_canMove cX2_canMove 7 (some .boolean), Cond.methodLink RX2 13 yX2_countAt, Cond.static yX2_countAt, Cond.code yX2_countAt cX2_countAt 3 (some .int), Cond.methodLink RX2 17 yX4_canEnter, Cond.static yX4_canEnter, Cond.initialized RX4, Cond.code yX4_canEnter cX4_canEnter 3 (some .boolean), Cond.methodLink RX5 80 yX2_canBeTaken, Cond.static yX2_canBeTaken, Cond.code yX2_canBeTaken cX2_canBeTaken 3 (some .boolean), Cond.methodLink RX2 21 yX4_isShared, Cond.static yX4_isShared, Cond.code yX4_isShared cX4_isShared 1 (some .boolean)]
def wsL_captures : List Cond := .codeWith yL_captures cL_captures 4 (some .int) [(0, 16, 19, 13)] :: ((wsL_captures_r1 ++ wsL_captures_r2) ++ wsX50 ++ wsX30 ++ (vx_at0 RX5 110 "java/lang/IllegalArgumentException" ["java/lang/RuntimeException", "java/lang/Exception"]).filter goodWord)
def wsL_worth_r1 : List Cond := [Cond.classLink RL 13 "java/lang/IllegalArgumentException", Cond.methodLink RL 38 yX5_worth, Cond.instanceMethod yX5_worth, Cond.selects RX5 yX5_worth yX5_worth, Cond.initialized RX5, Cond.code yX5_worth cX5_worth 3 (some .int), Cond.fieldLink RX5 59 "RoyalUrTable" "turn" "I", Cond.constant RX5 105 (1000000000), Cond.methodLink RX5 36 yX5_refuseOutside, Cond.static yX5_refuseOutside, Cond.code yX5_refuseOutside cX5_refuseOutside 3 none, Cond.classLink RX5 108 "java/lang/IllegalArgumentException", Cond.initialized "java/lang/IllegalArgumentException", Cond.methodLink RX5 102 yX5_worthForTurn, Cond.instanceMethod yX5_worthForTurn, Cond.selects RX5 yX5_worthForTurn yX5_worthForTurn, Cond.code yX5_worthForTurn cX5_worthForTurn 6 (some .int), Cond.fieldLink RX5 42 "RoyalUrTable" "winner" "I", Cond.fieldLink RX5 22 "RoyalUrTable" "endings" "LRoyalUrTable$Endings;", Cond.fieldLink RX5 70 "RoyalUrTable$Side" "layout" "J", Cond.fieldLink RX5 46 "RoyalUrTable" "marksTold" "I", Cond.methodLink RX5 122 yX1_fillUpTo, Cond.instanceMethod yX1_fillUpTo, Cond.selects RX1 yX1_fillUpTo yX1_fillUpTo]
def wsL_worth_r2 : List Cond := [Cond.initialized RX1, Cond.code yX1_fillUpTo cX1_fillUpTo 4 none, Cond.methodLink RX1 17 Lib.Math.min.name, Cond.static Lib.Math.min.name, Cond.initialized "java/lang/Math", Cond.code Lib.Math.min.name Lib.Math.min.code 2 (some .int), Cond.fieldLink RX1 23 "RoyalUrTable$Endings" "roundsHeld" "I", Cond.methodLink RX1 27 yX1_fillRow, Cond.instanceMethod yX1_fillRow, Cond.selects RX1 yX1_fillRow yX1_fillRow, Cond.code yX1_fillRow cX1_fillRow 5 none, Cond.fieldLink RX1 13 "RoyalUrTable$Endings" "worths" "[I", Cond.methodLink RX1 32 yX1_worthToThrow, Cond.instanceMethod yX1_worthToThrow, Cond.selects RX1 yX1_worthToThrow yX1_worthToThrow, Cond.code yX1_worthToThrow cX1_worthToThrow 8 (some .int), Cond.constantLong RX1 50 (16), Cond.methodLink RX1 36 yX1_held, Cond.instanceMethod yX1_held, Cond.selects RX1 yX1_held yX1_held, Cond.code yX1_held cX1_held 5 (some .int), Cond.constant RX1 31 (500000000), Cond.methodLink RX1 42 yX0_timesIn16, Cond.static yX0_timesIn16]
def wsL_worth_r3 : List Cond := [Cond.initialized RX0, Cond.code yX0_timesIn16 cX0_timesIn16 1 (some .int), Cond.fieldLink RX0 7 "RoyalUrTable$Dice" "TIMES_IN_16" "[I", Cond.methodLink RX1 46 yX1_worthBehindThrow, Cond.instanceMethod yX1_worthBehindThrow, Cond.selects RX1 yX1_worthBehindThrow yX1_worthBehindThrow, Cond.code yX1_worthBehindThrow cX1_worthBehindThrow 8 (some .int), Cond.constant RX1 56 (1000000000), Cond.methodLink RX1 52 yX4_canEnter, Cond.static yX4_canEnter, Cond.initialized RX4, Cond.code yX4_canEnter cX4_canEnter 3 (some .boolean), Cond.methodLink RX1 57 yX4_isShared, Cond.static yX4_isShared, Cond.code yX4_isShared cX4_isShared 1 (some .boolean), Cond.methodLink RX1 61 yX4_isRosette, Cond.static yX4_isRosette, Cond.code yX4_isRosette cX4_isRosette 1 (some .boolean), Cond.methodLink RX5 66 yX5_sideOf, Cond.instanceMethod yX5_sideOf, Cond.selects RX5 yX5_sideOf yX5_sideOf, Cond.code yX5_sideOf cX5_sideOf 2 (some (.object "RoyalUrTable$Side")), Cond.fieldLink RX5 10 "RoyalUrTable" "side0" "LRoyalUrTable$Side;", Cond.fieldLink RX5 16 "RoyalUrTable" "side1" "LRoyalUrTable$Side;"]
def wsL_worth_r4 : List Cond := [Cond.methodLink RX5 146 yX5_leadOfTurn, Cond.instanceMethod yX5_leadOfTurn, Cond.selects RX5 yX5_leadOfTurn yX5_leadOfTurn, Cond.code yX5_leadOfTurn cX5_leadOfTurn 1 (some .int), Cond.methodLink RX5 98 yX2_sumOfPlaces, Cond.static yX2_sumOfPlaces, Cond.initialized RX2, Cond.code yX2_sumOfPlaces cX2_sumOfPlaces 4 (some .int), Cond.methodLink RX2 13 yX2_countAt, Cond.static yX2_countAt, Cond.code yX2_countAt cX2_countAt 3 (some .int), Cond.methodLink RX5 150 yX5_worthToThrow, Cond.instanceMethod yX5_worthToThrow, Cond.selects RX5 yX5_worthToThrow yX5_worthToThrow, Cond.code yX5_worthToThrow cX5_worthToThrow 10 (some .int), Cond.constantLong RX5 169 (16), Cond.methodLink RX5 162 yX5_worthAtOnce, Cond.instanceMethod yX5_worthAtOnce, Cond.selects RX5 yX5_worthAtOnce yX5_worthAtOnce, Cond.code yX5_worthAtOnce cX5_worthAtOnce 7 (some .int), Cond.fieldLink RX5 135 "RoyalUrTable" "piecesOfEach" "I", Cond.constant RX5 179 (500000000), Cond.constant RX5 180 (4000000), Cond.methodLink RX5 171 Lib.Math.max.name]
def wsL_worth_r5 : List Cond := [Cond.static Lib.Math.max.name, Cond.code Lib.Math.max.name Lib.Math.max.code 2 (some .int), Cond.constant RX5 181 (999999999), Cond.methodLink RX5 182 Lib.Math.min.name, Cond.methodLink RX5 94 yX2_countAt, Cond.methodLink RX5 176 yX2_firstPlace, Cond.static yX2_firstPlace, Cond.code yX2_firstPlace cX2_firstPlace 3 (some .int), Cond.methodLink RX5 125 yX1_held, Cond.methodLink RX5 166 yX0_timesIn16, Cond.methodLink RX5 154 yX5_worthBehindThrow, Cond.instanceMethod yX5_worthBehindThrow, Cond.selects RX5 yX5_worthBehindThrow yX5_worthBehindThrow, Cond.code yX5_worthBehindMove cX5_worthBehindMove 15 (some .int), Cond.methodLink RX5 74 yX2_shifted, Cond.static yX2_shifted, Cond.code yX2_shifted cX2_shifted 4 (some .long), Cond.methodLink RX5 87 yX2_isAllHome, Cond.static yX2_isAllHome, Cond.code yX2_isAllHome cX2_isAllHome 2 (some .boolean), Cond.constantLong RX2 11 (1152921504606846975), Cond.methodLink RX5 80 yX2_canBeTaken, Cond.static yX2_canBeTaken, Cond.code yX2_canBeTaken cX2_canBeTaken 3 (some .boolean)]
def wsL_worth_r6 : List Cond := [Cond.methodLink RX2 21 yX4_isShared, Cond.methodLink RX5 91 yX4_isRosette, Cond.code yX5_worthBehindThrow cX5_worthBehindThrow 10 (some .int), Cond.methodLink RX5 142 yX2_canMove, Cond.static yX2_canMove, Cond.code yX2_canMove cX2_canMove 7 (some .boolean), Cond.methodLink RX2 17 yX4_canEnter, Cond.methodLink RX5 158 yX5_worthBehindMove, Cond.instanceMethod yX5_worthBehindMove, Cond.selects RX5 yX5_worthBehindMove yX5_worthBehindMove]
def wsL_worth : List Cond := .codeWith yL_worth cL_worth 4 (some .int) [(0, 9, 12, 13)] :: ((wsL_worth_r1 ++ (wsL_worth_r2 ++ (wsL_worth_r3 ++ (wsL_worth_r4 ++ (wsL_worth_r5 ++ wsL_worth_r6))))) ++ wsX50 ++ wsX30 ++ wsX10 ++ (vx_at0 RX5 110 "java/lang/IllegalArgumentException" ["java/lang/RuntimeException", "java/lang/Exception"]).filter goodWord)
def wsL_chance_r1 : List Cond := [Cond.classLink RL 13 "java/lang/IllegalArgumentException", Cond.methodLink RL 41 yX5_chance, Cond.instanceMethod yX5_chance, Cond.selects RX5 yX5_chance yX5_chance, Cond.initialized RX5, Cond.code yX5_chance cX5_chance 2 (some .double), Cond.constantDouble RX5 106 (4741671816366391296), Cond.methodLink RX5 36 yX5_refuseOutside, Cond.static yX5_refuseOutside, Cond.code yX5_refuseOutside cX5_refuseOutside 3 none, Cond.classLink RX5 108 "java/lang/IllegalArgumentException", Cond.initialized "java/lang/IllegalArgumentException", Cond.methodLink RX5 102 yX5_worthForTurn, Cond.instanceMethod yX5_worthForTurn, Cond.selects RX5 yX5_worthForTurn yX5_worthForTurn, Cond.code yX5_worthForTurn cX5_worthForTurn 6 (some .int), Cond.fieldLink RX5 42 "RoyalUrTable" "winner" "I", Cond.fieldLink RX5 59 "RoyalUrTable" "turn" "I", Cond.constant RX5 105 (1000000000), Cond.fieldLink RX5 22 "RoyalUrTable" "endings" "LRoyalUrTable$Endings;", Cond.fieldLink RX5 70 "RoyalUrTable$Side" "layout" "J", Cond.fieldLink RX5 46 "RoyalUrTable" "marksTold" "I", Cond.methodLink RX5 122 yX1_fillUpTo, Cond.instanceMethod yX1_fillUpTo]
def wsL_chance_r2 : List Cond := [Cond.selects RX1 yX1_fillUpTo yX1_fillUpTo, Cond.initialized RX1, Cond.code yX1_fillUpTo cX1_fillUpTo 4 none, Cond.methodLink RX1 17 Lib.Math.min.name, Cond.static Lib.Math.min.name, Cond.initialized "java/lang/Math", Cond.code Lib.Math.min.name Lib.Math.min.code 2 (some .int), Cond.fieldLink RX1 23 "RoyalUrTable$Endings" "roundsHeld" "I", Cond.methodLink RX1 27 yX1_fillRow, Cond.instanceMethod yX1_fillRow, Cond.selects RX1 yX1_fillRow yX1_fillRow, Cond.code yX1_fillRow cX1_fillRow 5 none, Cond.fieldLink RX1 13 "RoyalUrTable$Endings" "worths" "[I", Cond.methodLink RX1 32 yX1_worthToThrow, Cond.instanceMethod yX1_worthToThrow, Cond.selects RX1 yX1_worthToThrow yX1_worthToThrow, Cond.code yX1_worthToThrow cX1_worthToThrow 8 (some .int), Cond.constantLong RX1 50 (16), Cond.methodLink RX1 36 yX1_held, Cond.instanceMethod yX1_held, Cond.selects RX1 yX1_held yX1_held, Cond.code yX1_held cX1_held 5 (some .int), Cond.constant RX1 31 (500000000), Cond.methodLink RX1 42 yX0_timesIn16]
def wsL_chance_r3 : List Cond := [Cond.static yX0_timesIn16, Cond.initialized RX0, Cond.code yX0_timesIn16 cX0_timesIn16 1 (some .int), Cond.fieldLink RX0 7 "RoyalUrTable$Dice" "TIMES_IN_16" "[I", Cond.methodLink RX1 46 yX1_worthBehindThrow, Cond.instanceMethod yX1_worthBehindThrow, Cond.selects RX1 yX1_worthBehindThrow yX1_worthBehindThrow, Cond.code yX1_worthBehindThrow cX1_worthBehindThrow 8 (some .int), Cond.constant RX1 56 (1000000000), Cond.methodLink RX1 52 yX4_canEnter, Cond.static yX4_canEnter, Cond.initialized RX4, Cond.code yX4_canEnter cX4_canEnter 3 (some .boolean), Cond.methodLink RX1 57 yX4_isShared, Cond.static yX4_isShared, Cond.code yX4_isShared cX4_isShared 1 (some .boolean), Cond.methodLink RX1 61 yX4_isRosette, Cond.static yX4_isRosette, Cond.code yX4_isRosette cX4_isRosette 1 (some .boolean), Cond.methodLink RX5 66 yX5_sideOf, Cond.instanceMethod yX5_sideOf, Cond.selects RX5 yX5_sideOf yX5_sideOf, Cond.code yX5_sideOf cX5_sideOf 2 (some (.object "RoyalUrTable$Side")), Cond.fieldLink RX5 10 "RoyalUrTable" "side0" "LRoyalUrTable$Side;"]
def wsL_chance_r4 : List Cond := [Cond.fieldLink RX5 16 "RoyalUrTable" "side1" "LRoyalUrTable$Side;", Cond.methodLink RX5 146 yX5_leadOfTurn, Cond.instanceMethod yX5_leadOfTurn, Cond.selects RX5 yX5_leadOfTurn yX5_leadOfTurn, Cond.code yX5_leadOfTurn cX5_leadOfTurn 1 (some .int), Cond.methodLink RX5 98 yX2_sumOfPlaces, Cond.static yX2_sumOfPlaces, Cond.initialized RX2, Cond.code yX2_sumOfPlaces cX2_sumOfPlaces 4 (some .int), Cond.methodLink RX2 13 yX2_countAt, Cond.static yX2_countAt, Cond.code yX2_countAt cX2_countAt 3 (some .int), Cond.methodLink RX5 150 yX5_worthToThrow, Cond.instanceMethod yX5_worthToThrow, Cond.selects RX5 yX5_worthToThrow yX5_worthToThrow, Cond.code yX5_worthToThrow cX5_worthToThrow 10 (some .int), Cond.constantLong RX5 169 (16), Cond.methodLink RX5 162 yX5_worthAtOnce, Cond.instanceMethod yX5_worthAtOnce, Cond.selects RX5 yX5_worthAtOnce yX5_worthAtOnce, Cond.code yX5_worthAtOnce cX5_worthAtOnce 7 (some .int), Cond.fieldLink RX5 135 "RoyalUrTable" "piecesOfEach" "I", Cond.constant RX5 179 (500000000), Cond.constant RX5 180 (4000000)]
def wsL_chance_r5 : List Cond := [Cond.methodLink RX5 171 Lib.Math.max.name, Cond.static Lib.Math.max.name, Cond.code Lib.Math.max.name Lib.Math.max.code 2 (some .int), Cond.constant RX5 181 (999999999), Cond.methodLink RX5 182 Lib.Math.min.name, Cond.methodLink RX5 94 yX2_countAt, Cond.methodLink RX5 176 yX2_firstPlace, Cond.static yX2_firstPlace, Cond.code yX2_firstPlace cX2_firstPlace 3 (some .int), Cond.methodLink RX5 125 yX1_held, Cond.methodLink RX5 166 yX0_timesIn16, Cond.methodLink RX5 154 yX5_worthBehindThrow, Cond.instanceMethod yX5_worthBehindThrow, Cond.selects RX5 yX5_worthBehindThrow yX5_worthBehindThrow, Cond.code yX5_worthBehindMove cX5_worthBehindMove 15 (some .int), Cond.methodLink RX5 74 yX2_shifted, Cond.static yX2_shifted, Cond.code yX2_shifted cX2_shifted 4 (some .long), Cond.methodLink RX5 87 yX2_isAllHome, Cond.static yX2_isAllHome, Cond.code yX2_isAllHome cX2_isAllHome 2 (some .boolean), Cond.constantLong RX2 11 (1152921504606846975), Cond.methodLink RX5 80 yX2_canBeTaken, Cond.static yX2_canBeTaken]
def wsL_chance_r6 : List Cond := [Cond.code yX2_canBeTaken cX2_canBeTaken 3 (some .boolean), Cond.methodLink RX2 21 yX4_isShared, Cond.methodLink RX5 91 yX4_isRosette, Cond.code yX5_worthBehindThrow cX5_worthBehindThrow 10 (some .int), Cond.methodLink RX5 142 yX2_canMove, Cond.static yX2_canMove, Cond.code yX2_canMove cX2_canMove 7 (some .boolean), Cond.methodLink RX2 17 yX4_canEnter, Cond.methodLink RX5 158 yX5_worthBehindMove, Cond.instanceMethod yX5_worthBehindMove, Cond.selects RX5 yX5_worthBehindMove yX5_worthBehindMove]
def wsL_chance : List Cond := .codeWith yL_chance cL_chance 4 (some .int) [(0, 8, 11, 13)] :: ((wsL_chance_r1 ++ (wsL_chance_r2 ++ (wsL_chance_r3 ++ (wsL_chance_r4 ++ (wsL_chance_r5 ++ wsL_chance_r6))))) ++ wsX50 ++ wsX30 ++ wsX10 ++ (vx_at0 RX5 110 "java/lang/IllegalArgumentException" ["java/lang/RuntimeException", "java/lang/Exception"]).filter goodWord)
def wsL_ranked_r1 : List Cond := [Cond.classLink RL 13 "java/lang/IllegalArgumentException", Cond.methodLink RL 45 yX5_ranked, Cond.instanceMethod yX5_ranked, Cond.selects RX5 yX5_ranked yX5_ranked, Cond.initialized RX5, Cond.code yX5_ranked cX5_ranked 5 (some .int), Cond.classLink RX5 108 "java/lang/IllegalArgumentException", Cond.initialized "java/lang/IllegalArgumentException", Cond.fieldLink RX5 46 "RoyalUrTable" "marksTold" "I", Cond.fieldLink RX5 28 "RoyalUrTable" "worthsBehind" "[I", Cond.methodLink RX5 36 yX5_refuseOutside, Cond.static yX5_refuseOutside, Cond.code yX5_refuseOutside cX5_refuseOutside 3 none, Cond.methodLink RX5 55 yX5_countMoves, Cond.instanceMethod yX5_countMoves, Cond.selects RX5 yX5_countMoves yX5_countMoves, Cond.code yX5_countMoves cX5_countMoves 8 (some .int), Cond.fieldLink RX5 59 "RoyalUrTable" "turn" "I", Cond.fieldLink RX5 70 "RoyalUrTable$Side" "layout" "J", Cond.methodLink RX5 66 yX5_sideOf, Cond.instanceMethod yX5_sideOf, Cond.selects RX5 yX5_sideOf yX5_sideOf, Cond.code yX5_sideOf cX5_sideOf 2 (some (.object "RoyalUrTable$Side")), Cond.fieldLink RX5 10 "RoyalUrTable" "side0" "LRoyalUrTable$Side;"]
def wsL_ranked_r2 : List Cond := [Cond.fieldLink RX5 16 "RoyalUrTable" "side1" "LRoyalUrTable$Side;", Cond.methodLink RX5 142 yX2_canMove, Cond.static yX2_canMove, Cond.initialized RX2, Cond.code yX2_canMove cX2_canMove 7 (some .boolean), Cond.methodLink RX2 13 yX2_countAt, Cond.static yX2_countAt, Cond.code yX2_countAt cX2_countAt 3 (some .int), Cond.methodLink RX2 17 yX4_canEnter, Cond.static yX4_canEnter, Cond.initialized RX4, Cond.code yX4_canEnter cX4_canEnter 3 (some .boolean), Cond.methodLink RX5 111 yX5_noteWorthsBehind, Cond.instanceMethod yX5_noteWorthsBehind, Cond.selects RX5 yX5_noteWorthsBehind yX5_noteWorthsBehind, Cond.code yX5_noteWorthsBehind cX5_noteWorthsBehind 8 none, Cond.fieldLink RX5 22 "RoyalUrTable" "endings" "LRoyalUrTable$Endings;", Cond.methodLink RX5 122 yX1_fillUpTo, Cond.instanceMethod yX1_fillUpTo, Cond.selects RX1 yX1_fillUpTo yX1_fillUpTo, Cond.initialized RX1, Cond.code yX1_fillUpTo cX1_fillUpTo 4 none, Cond.methodLink RX1 17 Lib.Math.min.name, Cond.static Lib.Math.min.name]
def wsL_ranked_r3 : List Cond := [Cond.initialized "java/lang/Math", Cond.code Lib.Math.min.name Lib.Math.min.code 2 (some .int), Cond.fieldLink RX1 23 "RoyalUrTable$Endings" "roundsHeld" "I", Cond.methodLink RX1 27 yX1_fillRow, Cond.instanceMethod yX1_fillRow, Cond.selects RX1 yX1_fillRow yX1_fillRow, Cond.code yX1_fillRow cX1_fillRow 5 none, Cond.fieldLink RX1 13 "RoyalUrTable$Endings" "worths" "[I", Cond.methodLink RX1 32 yX1_worthToThrow, Cond.instanceMethod yX1_worthToThrow, Cond.selects RX1 yX1_worthToThrow yX1_worthToThrow, Cond.code yX1_worthToThrow cX1_worthToThrow 8 (some .int), Cond.constantLong RX1 50 (16), Cond.methodLink RX1 36 yX1_held, Cond.instanceMethod yX1_held, Cond.selects RX1 yX1_held yX1_held, Cond.code yX1_held cX1_held 5 (some .int), Cond.constant RX1 31 (500000000), Cond.methodLink RX1 42 yX0_timesIn16, Cond.static yX0_timesIn16, Cond.initialized RX0, Cond.code yX0_timesIn16 cX0_timesIn16 1 (some .int), Cond.fieldLink RX0 7 "RoyalUrTable$Dice" "TIMES_IN_16" "[I", Cond.methodLink RX1 46 yX1_worthBehindThrow]
def wsL_ranked_r4 : List Cond := [Cond.instanceMethod yX1_worthBehindThrow, Cond.selects RX1 yX1_worthBehindThrow yX1_worthBehindThrow, Cond.code yX1_worthBehindThrow cX1_worthBehindThrow 8 (some .int), Cond.constant RX1 56 (1000000000), Cond.methodLink RX1 52 yX4_canEnter, Cond.methodLink RX1 57 yX4_isShared, Cond.static yX4_isShared, Cond.code yX4_isShared cX4_isShared 1 (some .boolean), Cond.methodLink RX1 61 yX4_isRosette, Cond.static yX4_isRosette, Cond.code yX4_isRosette cX4_isRosette 1 (some .boolean), Cond.methodLink RX5 146 yX5_leadOfTurn, Cond.instanceMethod yX5_leadOfTurn, Cond.selects RX5 yX5_leadOfTurn yX5_leadOfTurn, Cond.code yX5_leadOfTurn cX5_leadOfTurn 1 (some .int), Cond.methodLink RX5 98 yX2_sumOfPlaces, Cond.static yX2_sumOfPlaces, Cond.code yX2_sumOfPlaces cX2_sumOfPlaces 4 (some .int), Cond.methodLink RX5 158 yX5_worthBehindMove, Cond.instanceMethod yX5_worthBehindMove, Cond.selects RX5 yX5_worthBehindMove yX5_worthBehindMove, Cond.code yX5_worthBehindMove cX5_worthBehindMove 15 (some .int), Cond.constant RX5 105 (1000000000), Cond.methodLink RX5 74 yX2_shifted]
def wsL_ranked_r5 : List Cond := [Cond.static yX2_shifted, Cond.code yX2_shifted cX2_shifted 4 (some .long), Cond.methodLink RX5 87 yX2_isAllHome, Cond.static yX2_isAllHome, Cond.code yX2_isAllHome cX2_isAllHome 2 (some .boolean), Cond.constantLong RX2 11 (1152921504606846975), Cond.methodLink RX5 80 yX2_canBeTaken, Cond.static yX2_canBeTaken, Cond.code yX2_canBeTaken cX2_canBeTaken 3 (some .boolean), Cond.methodLink RX2 21 yX4_isShared, Cond.methodLink RX5 91 yX4_isRosette, Cond.methodLink RX5 150 yX5_worthToThrow, Cond.instanceMethod yX5_worthToThrow, Cond.selects RX5 yX5_worthToThrow yX5_worthToThrow, Cond.code yX5_worthBehindThrow cX5_worthBehindThrow 10 (some .int), Cond.methodLink RX5 171 Lib.Math.max.name, Cond.static Lib.Math.max.name, Cond.code Lib.Math.max.name Lib.Math.max.code 2 (some .int), Cond.code yX5_worthToThrow cX5_worthToThrow 10 (some .int), Cond.constantLong RX5 169 (16), Cond.methodLink RX5 162 yX5_worthAtOnce, Cond.instanceMethod yX5_worthAtOnce, Cond.selects RX5 yX5_worthAtOnce yX5_worthAtOnce, Cond.code yX5_worthAtOnce cX5_worthAtOnce 7 (some .int)]
def wsL_ranked_r6 : List Cond := [Cond.fieldLink RX5 135 "RoyalUrTable" "piecesOfEach" "I", Cond.constant RX5 179 (500000000), Cond.constant RX5 180 (4000000), Cond.constant RX5 181 (999999999), Cond.methodLink RX5 182 Lib.Math.min.name, Cond.methodLink RX5 94 yX2_countAt, Cond.methodLink RX5 176 yX2_firstPlace, Cond.static yX2_firstPlace, Cond.code yX2_firstPlace cX2_firstPlace 3 (some .int), Cond.methodLink RX5 125 yX1_held, Cond.methodLink RX5 166 yX0_timesIn16, Cond.methodLink RX5 154 yX5_worthBehindThrow, Cond.instanceMethod yX5_worthBehindThrow, Cond.selects RX5 yX5_worthBehindThrow yX5_worthBehindThrow, Cond.methodLink RX5 114 yX5_countBetter, Cond.instanceMethod yX5_countBetter, Cond.selects RX5 yX5_countBetter yX5_countBetter, Cond.code yX5_countBetter cX5_countBetter 5 (some .int)]
def wsL_ranked : List Cond := .codeWith yL_ranked cL_ranked 5 (some .int) [(0, 10, 13, 13)] :: ((wsL_ranked_r1 ++ (wsL_ranked_r2 ++ (wsL_ranked_r3 ++ (wsL_ranked_r4 ++ (wsL_ranked_r5 ++ wsL_ranked_r6))))) ++ wsX50 ++ wsX30 ++ wsX10 ++ (vx_at0 RX5 110 "java/lang/IllegalArgumentException" ["java/lang/RuntimeException", "java/lang/Exception"]).filter goodWord)
def wsL_ending_r1 : List Cond := [Cond.classLink RL 13 "java/lang/IllegalArgumentException", Cond.methodLink RL 48 yX5_ending, Cond.instanceMethod yX5_ending, Cond.selects RX5 yX5_ending yX5_ending, Cond.initialized RX5, Cond.code yX5_ending cX5_ending 4 (some .int), Cond.fieldLink RX5 22 "RoyalUrTable" "endings" "LRoyalUrTable$Endings;", Cond.methodLink RX5 118 yX5_refuseEnding, Cond.static yX5_refuseEnding, Cond.code yX5_refuseEnding cX5_refuseEnding 2 none, Cond.classLink RX5 108 "java/lang/IllegalArgumentException", Cond.initialized "java/lang/IllegalArgumentException", Cond.methodLink RX5 36 yX5_refuseOutside, Cond.static yX5_refuseOutside, Cond.code yX5_refuseOutside cX5_refuseOutside 3 none, Cond.methodLink RX5 132 yX4_isShared, Cond.static yX4_isShared, Cond.initialized RX4, Cond.code yX4_isShared cX4_isShared 1 (some .boolean), Cond.methodLink RX5 122 yX1_fillUpTo, Cond.instanceMethod yX1_fillUpTo, Cond.selects RX1 yX1_fillUpTo yX1_fillUpTo, Cond.initialized RX1, Cond.code yX1_fillUpTo cX1_fillUpTo 4 none]
def wsL_ending_r2 : List Cond := [Cond.methodLink RX1 17 Lib.Math.min.name, Cond.static Lib.Math.min.name, Cond.initialized "java/lang/Math", Cond.code Lib.Math.min.name Lib.Math.min.code 2 (some .int), Cond.fieldLink RX1 23 "RoyalUrTable$Endings" "roundsHeld" "I", Cond.methodLink RX1 27 yX1_fillRow, Cond.instanceMethod yX1_fillRow, Cond.selects RX1 yX1_fillRow yX1_fillRow, Cond.code yX1_fillRow cX1_fillRow 5 none, Cond.fieldLink RX1 13 "RoyalUrTable$Endings" "worths" "[I", Cond.methodLink RX1 32 yX1_worthToThrow, Cond.instanceMethod yX1_worthToThrow, Cond.selects RX1 yX1_worthToThrow yX1_worthToThrow, Cond.code yX1_worthToThrow cX1_worthToThrow 8 (some .int), Cond.constantLong RX1 50 (16), Cond.methodLink RX1 36 yX1_held, Cond.instanceMethod yX1_held, Cond.selects RX1 yX1_held yX1_held, Cond.code yX1_held cX1_held 5 (some .int), Cond.constant RX1 31 (500000000), Cond.methodLink RX1 42 yX0_timesIn16, Cond.static yX0_timesIn16, Cond.initialized RX0, Cond.code yX0_timesIn16 cX0_timesIn16 1 (some .int)]
def wsL_ending_r3 : List Cond := [Cond.fieldLink RX0 7 "RoyalUrTable$Dice" "TIMES_IN_16" "[I", Cond.methodLink RX1 46 yX1_worthBehindThrow, Cond.instanceMethod yX1_worthBehindThrow, Cond.selects RX1 yX1_worthBehindThrow yX1_worthBehindThrow, Cond.code yX1_worthBehindThrow cX1_worthBehindThrow 8 (some .int), Cond.constant RX1 56 (1000000000), Cond.methodLink RX1 52 yX4_canEnter, Cond.static yX4_canEnter, Cond.code yX4_canEnter cX4_canEnter 3 (some .boolean), Cond.methodLink RX1 57 yX4_isShared, Cond.methodLink RX1 61 yX4_isRosette, Cond.static yX4_isRosette, Cond.code yX4_isRosette cX4_isRosette 1 (some .boolean), Cond.methodLink RX5 125 yX1_held]
def wsL_ending : List Cond := .codeWith yL_ending cL_ending 6 (some .int) [(0, 12, 15, 13)] :: ((wsL_ending_r1 ++ (wsL_ending_r2 ++ wsL_ending_r3)) ++ wsX50 ++ wsX10 ++ (vx_at0 RX5 110 "java/lang/IllegalArgumentException" ["java/lang/RuntimeException", "java/lang/Exception"]).filter goodWord)
def wsL_endingByThrows_r1 : List Cond := [Cond.classLink RL 13 "java/lang/IllegalArgumentException", Cond.methodLink RL 52 yX5_endingByThrows, Cond.instanceMethod yX5_endingByThrows, Cond.selects RX5 yX5_endingByThrows yX5_endingByThrows, Cond.initialized RX5, Cond.code yX5_endingByThrows cX5_endingByThrows 4 (some .int), Cond.fieldLink RX5 22 "RoyalUrTable" "endings" "LRoyalUrTable$Endings;", Cond.methodLink RX5 118 yX5_refuseEnding, Cond.static yX5_refuseEnding, Cond.code yX5_refuseEnding cX5_refuseEnding 2 none, Cond.classLink RX5 108 "java/lang/IllegalArgumentException", Cond.initialized "java/lang/IllegalArgumentException", Cond.methodLink RX5 36 yX5_refuseOutside, Cond.static yX5_refuseOutside, Cond.code yX5_refuseOutside cX5_refuseOutside 3 none, Cond.methodLink RX5 132 yX4_isShared, Cond.static yX4_isShared, Cond.initialized RX4, Cond.code yX4_isShared cX4_isShared 1 (some .boolean), Cond.methodLink RX5 129 yX1_playedOut, Cond.instanceMethod yX1_playedOut, Cond.selects RX1 yX1_playedOut yX1_playedOut, Cond.initialized RX1, Cond.code yX1_playedOut cX1_playedOut 4 (some .int)]
def wsL_endingByThrows_r2 : List Cond := [Cond.methodLink RX1 32 yX1_worthToThrow, Cond.instanceMethod yX1_worthToThrow, Cond.selects RX1 yX1_worthToThrow yX1_worthToThrow, Cond.code yX1_worthToThrow cX1_worthToThrow 8 (some .int), Cond.constantLong RX1 50 (16), Cond.methodLink RX1 36 yX1_held, Cond.instanceMethod yX1_held, Cond.selects RX1 yX1_held yX1_held, Cond.code yX1_held cX1_held 5 (some .int), Cond.constant RX1 31 (500000000), Cond.fieldLink RX1 13 "RoyalUrTable$Endings" "worths" "[I", Cond.methodLink RX1 42 yX0_timesIn16, Cond.static yX0_timesIn16, Cond.initialized RX0, Cond.code yX0_timesIn16 cX0_timesIn16 1 (some .int), Cond.fieldLink RX0 7 "RoyalUrTable$Dice" "TIMES_IN_16" "[I", Cond.methodLink RX1 46 yX1_worthBehindThrow, Cond.instanceMethod yX1_worthBehindThrow, Cond.selects RX1 yX1_worthBehindThrow yX1_worthBehindThrow, Cond.code yX1_worthBehindThrow cX1_worthBehindThrow 8 (some .int), Cond.constant RX1 56 (1000000000), Cond.methodLink RX1 52 yX4_canEnter, Cond.static yX4_canEnter, Cond.code yX4_canEnter cX4_canEnter 3 (some .boolean)]
def wsL_endingByThrows_r3 : List Cond := [Cond.methodLink RX1 57 yX4_isShared, Cond.methodLink RX1 61 yX4_isRosette, Cond.static yX4_isRosette, Cond.code yX4_isRosette cX4_isRosette 1 (some .boolean)]
def wsL_endingByThrows : List Cond := .codeWith yL_endingByThrows cL_endingByThrows 6 (some .int) [(0, 12, 15, 13)] :: ((wsL_endingByThrows_r1 ++ (wsL_endingByThrows_r2 ++ wsL_endingByThrows_r3)) ++ wsX50 ++ wsX10 ++ (vx_at0 RX5 110 "java/lang/IllegalArgumentException" ["java/lang/RuntimeException", "java/lang/Exception"]).filter goodWord)
def wsL_law0_r1 : List Cond := [Cond.classLink RL 8 RX5, Cond.instantiable RX5 9, Cond.initialized RX5, Cond.classLink RL 56 RX6, Cond.instantiable RX6 19, Cond.initialized RX6, Cond.arrayClass .long, Cond.arrayClass .double, Cond.methodLink RL 55 yX5_init, Cond.instanceMethod yX5_init, Cond.code yX5_init cX5_init 1 none, Cond.methodLink RX5 1 objectInit, Cond.instanceMethod objectInit, Cond.code objectInit ⟨#[0xb1]⟩ 1 none, Cond.classLink RX5 7 RX3, Cond.instantiable RX3 2, Cond.initialized RX3, Cond.fieldLink RX5 10 "RoyalUrTable" "side0" "LRoyalUrTable$Side;", Cond.fieldLink RX5 16 "RoyalUrTable" "side1" "LRoyalUrTable$Side;", Cond.classLink RX5 19 RX1, Cond.instantiable RX1 2, Cond.initialized RX1, Cond.fieldLink RX5 22 "RoyalUrTable" "endings" "LRoyalUrTable$Endings;", Cond.arrayClass .int]
def wsL_law0_r2 : List Cond := [Cond.fieldLink RX5 28 "RoyalUrTable" "worthsBehind" "[I", Cond.instanceMethod yX3_init, Cond.code yX3_init cX3_init 1 none, Cond.methodLink RX3 1 objectInit, Cond.methodLink RX5 21 yX1_init, Cond.instanceMethod yX1_init, Cond.code yX1_init cX1_init 1 none, Cond.methodLink RX1 5 objectInit, Cond.fieldLink RX1 13 "RoyalUrTable$Endings" "worths" "[I", Cond.methodLink RX5 32 yX5_setUp, Cond.instanceMethod yX5_setUp, Cond.selects RX5 yX5_setUp yX5_setUp, Cond.code yX5_setUp cX5_setUp 2 none, Cond.fieldLink RX5 135 "RoyalUrTable" "piecesOfEach" "I", Cond.fieldLink RX5 70 "RoyalUrTable$Side" "layout" "J", Cond.fieldLink RX5 84 "RoyalUrTable$Side" "lost" "I", Cond.fieldLink RX5 59 "RoyalUrTable" "turn" "I", Cond.fieldLink RX5 46 "RoyalUrTable" "marksTold" "I", Cond.fieldLink RX5 42 "RoyalUrTable" "winner" "I", Cond.fieldLink RX5 52 "RoyalUrTable" "throwsTold" "I", Cond.methodLink RX5 138 yX2_allAtStart, Cond.static yX2_allAtStart, Cond.initialized RX2, Cond.code yX2_allAtStart cX2_allAtStart 1 (some .long)]
def wsL_law0_r3 : List Cond := [Cond.methodLink RL 58 yX6_init, Cond.instanceMethod yX6_init, Cond.code yX6_init cX6_init 2 none, Cond.methodLink RX6 1 objectInit, Cond.fieldLink RX6 9 "RoyalUrTableModel" "told" "I", Cond.fieldLink RX6 13 "RoyalUrTableModel" "won" "I", Cond.fieldLink RX6 16 "RoyalUrTableModel" "lost" "[I", Cond.fieldLink RX6 20 "RoyalUrTableModel" "at" "[I", Cond.fieldLink RX6 23 "RoyalUrTableModel" "times" "[I", Cond.fieldLink RX6 26 "RoyalUrTableModel" "table" "[I", Cond.fieldLink RX6 29 "RoyalUrTableModel" "elder" "[I", Cond.fieldLink RX6 32 "RoyalUrTableModel" "forty" "[I", Cond.fieldLink RX6 35 "RoyalUrTableModel" "walk" "[I", Cond.fieldLink RX6 38 "RoyalUrTableModel" "sides" "[I", Cond.fieldLink RX6 41 "RoyalUrTableModel" "marks" "[I", Cond.fieldLink RX6 44 "RoyalUrTableModel" "next" "[I", Cond.fieldLink RX6 47 "RoyalUrTableModel" "best" "[I", Cond.fieldLink RX6 50 "RoyalUrTableModel" "sums" "[J", Cond.fieldLink RX6 54 "RoyalUrTableModel" "behind" "[I", Cond.methodLink RX6 57 yX6_layTable, Cond.instanceMethod yX6_layTable, Cond.selects RX6 yX6_layTable yX6_layTable, Cond.code yX6_layTable cX6_layTable 7 none, Cond.constant RX6 79 (500000000)]
def wsL_law0_r4 : List Cond := [Cond.constantLong RX6 84 (16), Cond.methodLink RX6 80 yX6_behindThrow, Cond.instanceMethod yX6_behindThrow, Cond.selects RX6 yX6_behindThrow yX6_behindThrow, Cond.code yX6_behindThrow cX6_behindThrow 6 (some .int), Cond.constant RX6 71 (1000000000), Cond.methodLink RX6 72 yX6_isShared, Cond.static yX6_isShared, Cond.code yX6_isShared cX6_isShared 1 (some .boolean), Cond.methodLink RX6 67 yX6_in, Cond.static yX6_in, Cond.code yX6_in cX6_in 3 (some .boolean), Cond.methodLink RX6 76 yX6_isRosette, Cond.static yX6_isRosette, Cond.code yX6_isRosette cX6_isRosette 1 (some .boolean), Cond.methodLink RX6 61 yX6_starts, Cond.instanceMethod yX6_starts, Cond.selects RX6 yX6_starts yX6_starts, Cond.code yX6_starts cX6_starts 3 none, Cond.fieldLink RX6 90 "RoyalUrTableModel" "pieces" "I", Cond.fieldLink RX6 128 "RoyalUrTableModel" "side" "I", Cond.fieldLink RX6 140 "RoyalUrTableModel" "count" "I", Cond.methodLink RL 59 yL_begin, Cond.static yL_begin]
def wsL_law0_r5 : List Cond := [Cond.initialized RL, Cond.codeWith yL_begin cL_begin 3 (some .int) [(0, 5, 8, 13)], Cond.classLink RL 13 "java/lang/IllegalArgumentException", Cond.methodLink RL 7 yX5_begin, Cond.instanceMethod yX5_begin, Cond.selects RX5 yX5_begin yX5_begin, Cond.code yX5_begin cX5_begin 2 none, Cond.methodLink RX5 36 yX5_refuseOutside, Cond.static yX5_refuseOutside, Cond.code yX5_refuseOutside cX5_refuseOutside 3 none, Cond.classLink RX5 108 "java/lang/IllegalArgumentException", Cond.initialized "java/lang/IllegalArgumentException", Cond.methodLink RL 64 yX6_begin, Cond.instanceMethod yX6_begin, Cond.selects RX6 yX6_begin yX6_begin, Cond.code yX6_begin cX6_begin 2 none, Cond.fieldLink RX6 64 "RoyalUrTableModel" "thrown" "I", Cond.methodLink RL 65 yX6_thrown, Cond.instanceMethod yX6_thrown, Cond.selects RX6 yX6_thrown yX6_thrown, Cond.code yX6_thrown cX6_thrown 1 (some .int), Cond.methodLink RL 69 yL_tell, Cond.static yL_tell, Cond.codeWith yL_tell cL_tell 4 (some .int) [(0, 9, 12, 13), (0, 9, 15, 19)]]
def wsL_law0_r6 : List Cond := [Cond.classLink RL 19 "java/lang/IllegalStateException", Cond.methodLink RL 15 yX5_tell, Cond.instanceMethod yX5_tell, Cond.selects RX5 yX5_tell yX5_tell, Cond.code yX5_tell cX5_tell 3 (some .int), Cond.classLink RX5 49 "java/lang/IllegalStateException", Cond.initialized "java/lang/IllegalStateException", Cond.methodLink RX5 55 yX5_countMoves, Cond.instanceMethod yX5_countMoves, Cond.selects RX5 yX5_countMoves yX5_countMoves, Cond.code yX5_countMoves cX5_countMoves 8 (some .int), Cond.methodLink RX5 66 yX5_sideOf, Cond.instanceMethod yX5_sideOf, Cond.selects RX5 yX5_sideOf yX5_sideOf, Cond.code yX5_sideOf cX5_sideOf 2 (some (.object "RoyalUrTable$Side")), Cond.methodLink RX5 142 yX2_canMove, Cond.static yX2_canMove, Cond.code yX2_canMove cX2_canMove 7 (some .boolean), Cond.methodLink RX2 13 yX2_countAt, Cond.static yX2_countAt, Cond.code yX2_countAt cX2_countAt 3 (some .int), Cond.methodLink RX2 17 yX4_canEnter, Cond.static yX4_canEnter, Cond.initialized RX4]
def wsL_law0_r7 : List Cond := [Cond.code yX4_canEnter cX4_canEnter 3 (some .boolean), Cond.methodLink RL 72 yX6_tell, Cond.instanceMethod yX6_tell, Cond.selects RX6 yX6_tell yX6_tell, Cond.code yX6_tell cX6_tell 3 (some .int), Cond.methodLink RX6 143 yX6_fails, Cond.instanceMethod yX6_fails, Cond.selects RX6 yX6_fails yX6_fails, Cond.code yX6_fails cX6_fails 2 (some .int), Cond.methodLink RX6 147 yX6_countMoves, Cond.instanceMethod yX6_countMoves, Cond.selects RX6 yX6_countMoves yX6_countMoves, Cond.code yX6_countMoves cX6_countMoves 4 (some .int), Cond.methodLink RX6 102 yX6_canMove, Cond.static yX6_canMove, Cond.code yX6_canMove cX6_canMove 7 (some .boolean), Cond.methodLink RL 73 yL_move, Cond.static yL_move, Cond.codeWith yL_move cL_move 4 (some .int) [(0, 9, 12, 13), (0, 9, 15, 19)], Cond.methodLink RL 21 yX5_move, Cond.instanceMethod yX5_move, Cond.selects RX5 yX5_move yX5_move, Cond.code yX5_move cX5_move 5 (some .int), Cond.methodLink RX5 62 yX5_canMoveFrom]
def wsL_law0_r8 : List Cond := [Cond.instanceMethod yX5_canMoveFrom, Cond.selects RX5 yX5_canMoveFrom yX5_canMoveFrom, Cond.code yX5_canMoveFrom cX5_canMoveFrom 2 (some .boolean), Cond.methodLink RX5 74 yX2_shifted, Cond.static yX2_shifted, Cond.code yX2_shifted cX2_shifted 4 (some .long), Cond.methodLink RX5 80 yX2_canBeTaken, Cond.static yX2_canBeTaken, Cond.code yX2_canBeTaken cX2_canBeTaken 3 (some .boolean), Cond.methodLink RX2 21 yX4_isShared, Cond.static yX4_isShared, Cond.code yX4_isShared cX4_isShared 1 (some .boolean), Cond.methodLink RX5 87 yX2_isAllHome, Cond.static yX2_isAllHome, Cond.code yX2_isAllHome cX2_isAllHome 2 (some .boolean), Cond.constantLong RX2 11 (1152921504606846975), Cond.methodLink RX5 91 yX4_isRosette, Cond.static yX4_isRosette, Cond.code yX4_isRosette cX4_isRosette 1 (some .boolean), Cond.methodLink RL 75 yX6_move, Cond.instanceMethod yX6_move, Cond.selects RX6 yX6_move yX6_move, Cond.code yX6_move cX6_move 3 (some .int), Cond.methodLink RX6 109 yX6_shifts]
def wsL_law0_r9 : List Cond := [Cond.static yX6_shifts, Cond.code yX6_shifts cX6_shifts 8 (some .int), Cond.methodLink RL 76 yX5_turn, Cond.instanceMethod yX5_turn, Cond.selects RX5 yX5_turn yX5_turn, Cond.code yX5_turn cX5_turn 1 (some .int), Cond.methodLink RL 79 yX6_turn, Cond.instanceMethod yX6_turn, Cond.selects RX6 yX6_turn yX6_turn, Cond.code yX6_turn cX6_turn 1 (some .int), Cond.methodLink RL 80 yX5_marks, Cond.instanceMethod yX5_marks, Cond.selects RX5 yX5_marks yX5_marks, Cond.code yX5_marks cX5_marks 1 (some .int), Cond.methodLink RL 83 yX6_marks, Cond.instanceMethod yX6_marks, Cond.selects RX6 yX6_marks yX6_marks, Cond.code yX6_marks cX6_marks 1 (some .int), Cond.methodLink RL 84 yX5_winner, Cond.instanceMethod yX5_winner, Cond.selects RX5 yX5_winner yX5_winner, Cond.code yX5_winner cX5_winner 1 (some .int), Cond.methodLink RL 87 yX6_winner, Cond.instanceMethod yX6_winner]
def wsL_law0_r10 : List Cond := [Cond.selects RX6 yX6_winner yX6_winner, Cond.code yX6_winner cX6_winner 1 (some .int), Cond.methodLink RL 88 yL_at, Cond.static yL_at, Cond.codeWith yL_at cL_at 5 (some .int) [(0, 10, 13, 13)], Cond.methodLink RL 24 yX5_at, Cond.instanceMethod yX5_at, Cond.selects RX5 yX5_at yX5_at, Cond.code yX5_at cX5_at 3 (some .int), Cond.methodLink RX5 94 yX2_countAt, Cond.methodLink RL 91 yX6_at, Cond.instanceMethod yX6_at, Cond.selects RX6 yX6_at yX6_at, Cond.code yX6_at cX6_at 3 (some .int), Cond.methodLink RL 92 yL_progress, Cond.static yL_progress, Cond.codeWith yL_progress cL_progress 4 (some .int) [(0, 9, 12, 13)], Cond.methodLink RL 28 yX5_progress, Cond.instanceMethod yX5_progress, Cond.selects RX5 yX5_progress yX5_progress, Cond.code yX5_progress cX5_progress 2 (some .int), Cond.methodLink RX5 98 yX2_sumOfPlaces, Cond.static yX2_sumOfPlaces, Cond.code yX2_sumOfPlaces cX2_sumOfPlaces 4 (some .int)]
def wsL_law0_r11 : List Cond := [Cond.methodLink RL 94 yX6_progress, Cond.instanceMethod yX6_progress, Cond.selects RX6 yX6_progress yX6_progress, Cond.code yX6_progress cX6_progress 2 (some .int), Cond.methodLink RX6 98 yX6_progressOf, Cond.instanceMethod yX6_progressOf, Cond.selects RX6 yX6_progressOf yX6_progressOf, Cond.code yX6_progressOf cX6_progressOf 6 (some .int), Cond.methodLink RL 95 yL_captured, Cond.static yL_captured, Cond.codeWith yL_captured cL_captured 4 (some .int) [(0, 9, 12, 13)], Cond.methodLink RL 31 yX5_captured, Cond.instanceMethod yX5_captured, Cond.selects RX5 yX5_captured yX5_captured, Cond.code yX5_captured cX5_captured 2 (some .int), Cond.methodLink RL 97 yX6_captured, Cond.instanceMethod yX6_captured, Cond.selects RX6 yX6_captured yX6_captured, Cond.code yX6_captured cX6_captured 2 (some .int), Cond.methodLink RL 98 yX5_throwsTold, Cond.instanceMethod yX5_throwsTold, Cond.selects RX5 yX5_throwsTold yX5_throwsTold, Cond.code yX5_throwsTold cX5_throwsTold 1 (some .int), Cond.methodLink RL 101 yX6_throwsTold]
def wsL_law0_r12 : List Cond := [Cond.instanceMethod yX6_throwsTold, Cond.selects RX6 yX6_throwsTold yX6_throwsTold, Cond.code yX6_throwsTold cX6_throwsTold 1 (some .int), Cond.methodLink RL 102 yX5_moves, Cond.instanceMethod yX5_moves, Cond.selects RX5 yX5_moves yX5_moves, Cond.code yX5_moves cX5_moves 1 (some .int), Cond.methodLink RL 105 yX6_moves, Cond.instanceMethod yX6_moves, Cond.selects RX6 yX6_moves yX6_moves, Cond.code yX6_moves cX6_moves 1 (some .int), Cond.methodLink RL 106 yX5_moveAt, Cond.instanceMethod yX5_moveAt, Cond.selects RX5 yX5_moveAt yX5_moveAt, Cond.code yX5_moveAt cX5_moveAt 4 (some .int), Cond.methodLink RL 109 yX6_moveAt, Cond.instanceMethod yX6_moveAt, Cond.selects RX6 yX6_moveAt yX6_moveAt, Cond.code yX6_moveAt cX6_moveAt 5 (some .int), Cond.methodLink RL 110 yL_captures, Cond.static yL_captures, Cond.codeWith yL_captures cL_captures 4 (some .int) [(0, 16, 19, 13)], Cond.methodLink RL 34 yX5_captures, Cond.instanceMethod yX5_captures]
def wsL_law0_r13 : List Cond := [Cond.selects RX5 yX5_captures yX5_captures, Cond.code yX5_captures cX5_captures 2 (some .boolean), Cond.methodLink RL 112 yX6_captures, Cond.instanceMethod yX6_captures, Cond.selects RX6 yX6_captures yX6_captures, Cond.code yX6_captures cX6_captures 2 (some .boolean), Cond.methodLink RL 113 yL_worth, Cond.static yL_worth, Cond.codeWith yL_worth cL_worth 4 (some .int) [(0, 9, 12, 13)], Cond.methodLink RL 38 yX5_worth, Cond.instanceMethod yX5_worth, Cond.selects RX5 yX5_worth yX5_worth, Cond.code yX5_worth cX5_worth 3 (some .int), Cond.constant RX5 105 (1000000000), Cond.methodLink RX5 102 yX5_worthForTurn, Cond.instanceMethod yX5_worthForTurn, Cond.selects RX5 yX5_worthForTurn yX5_worthForTurn, Cond.code yX5_worthForTurn cX5_worthForTurn 6 (some .int), Cond.methodLink RX5 122 yX1_fillUpTo, Cond.instanceMethod yX1_fillUpTo, Cond.selects RX1 yX1_fillUpTo yX1_fillUpTo, Cond.code yX1_fillUpTo cX1_fillUpTo 4 none, Cond.methodLink RX1 17 Lib.Math.min.name, Cond.static Lib.Math.min.name]
def wsL_law0_r14 : List Cond := [Cond.initialized "java/lang/Math", Cond.code Lib.Math.min.name Lib.Math.min.code 2 (some .int), Cond.fieldLink RX1 23 "RoyalUrTable$Endings" "roundsHeld" "I", Cond.methodLink RX1 27 yX1_fillRow, Cond.instanceMethod yX1_fillRow, Cond.selects RX1 yX1_fillRow yX1_fillRow, Cond.code yX1_fillRow cX1_fillRow 5 none, Cond.methodLink RX1 32 yX1_worthToThrow, Cond.instanceMethod yX1_worthToThrow, Cond.selects RX1 yX1_worthToThrow yX1_worthToThrow, Cond.code yX1_worthToThrow cX1_worthToThrow 8 (some .int), Cond.constantLong RX1 50 (16), Cond.methodLink RX1 36 yX1_held, Cond.instanceMethod yX1_held, Cond.selects RX1 yX1_held yX1_held, Cond.code yX1_held cX1_held 5 (some .int), Cond.constant RX1 31 (500000000), Cond.methodLink RX1 42 yX0_timesIn16, Cond.static yX0_timesIn16, Cond.initialized RX0, Cond.code yX0_timesIn16 cX0_timesIn16 1 (some .int), Cond.fieldLink RX0 7 "RoyalUrTable$Dice" "TIMES_IN_16" "[I", Cond.methodLink RX1 46 yX1_worthBehindThrow, Cond.instanceMethod yX1_worthBehindThrow]
def wsL_law0_r15 : List Cond := [Cond.selects RX1 yX1_worthBehindThrow yX1_worthBehindThrow, Cond.code yX1_worthBehindThrow cX1_worthBehindThrow 8 (some .int), Cond.constant RX1 56 (1000000000), Cond.methodLink RX1 52 yX4_canEnter, Cond.methodLink RX1 57 yX4_isShared, Cond.methodLink RX1 61 yX4_isRosette, Cond.methodLink RX5 146 yX5_leadOfTurn, Cond.instanceMethod yX5_leadOfTurn, Cond.selects RX5 yX5_leadOfTurn yX5_leadOfTurn, Cond.code yX5_leadOfTurn cX5_leadOfTurn 1 (some .int), Cond.methodLink RX5 150 yX5_worthToThrow, Cond.instanceMethod yX5_worthToThrow, Cond.selects RX5 yX5_worthToThrow yX5_worthToThrow, Cond.code yX5_worthToThrow cX5_worthToThrow 10 (some .int), Cond.constantLong RX5 169 (16), Cond.methodLink RX5 162 yX5_worthAtOnce, Cond.instanceMethod yX5_worthAtOnce, Cond.selects RX5 yX5_worthAtOnce yX5_worthAtOnce, Cond.code yX5_worthAtOnce cX5_worthAtOnce 7 (some .int), Cond.constant RX5 179 (500000000), Cond.constant RX5 180 (4000000), Cond.methodLink RX5 171 Lib.Math.max.name, Cond.static Lib.Math.max.name, Cond.code Lib.Math.max.name Lib.Math.max.code 2 (some .int)]
def wsL_law0_r16 : List Cond := [Cond.constant RX5 181 (999999999), Cond.methodLink RX5 182 Lib.Math.min.name, Cond.methodLink RX5 176 yX2_firstPlace, Cond.static yX2_firstPlace, Cond.code yX2_firstPlace cX2_firstPlace 3 (some .int), Cond.methodLink RX5 125 yX1_held, Cond.methodLink RX5 166 yX0_timesIn16, Cond.methodLink RX5 154 yX5_worthBehindThrow, Cond.instanceMethod yX5_worthBehindThrow, Cond.selects RX5 yX5_worthBehindThrow yX5_worthBehindThrow, Cond.code yX5_worthBehindMove cX5_worthBehindMove 15 (some .int), Cond.code yX5_worthBehindThrow cX5_worthBehindThrow 10 (some .int), Cond.methodLink RX5 158 yX5_worthBehindMove, Cond.instanceMethod yX5_worthBehindMove, Cond.selects RX5 yX5_worthBehindMove yX5_worthBehindMove, Cond.methodLink RL 115 yX6_worth, Cond.instanceMethod yX6_worth, Cond.selects RX6 yX6_worth yX6_worth, Cond.code yX6_worth cX6_worth 2 (some .int), Cond.methodLink RX6 150 yX6_worthNow, Cond.instanceMethod yX6_worthNow, Cond.selects RX6 yX6_worthNow yX6_worthNow, Cond.code yX6_worthNow cX6_worthNow 4 (some .int), Cond.methodLink RX6 131 yX6_lays]
def wsL_law0_r17 : List Cond := [Cond.instanceMethod yX6_lays, Cond.selects RX6 yX6_lays yX6_lays, Cond.code yX6_lays cX6_lays 2 none, Cond.methodLink RX6 134 yX6_worthOf, Cond.instanceMethod yX6_worthOf, Cond.selects RX6 yX6_worthOf yX6_worthOf, Cond.code yX6_worthOf cX6_worthOf 5 (some .int), Cond.methodLink RX6 113 yX6_enters, Cond.instanceMethod yX6_enters, Cond.selects RX6 yX6_enters yX6_enters, Cond.code yX6_enters cX6_enters 3 none, Cond.methodLink RX6 117 yX6_leaf, Cond.instanceMethod yX6_leaf, Cond.selects RX6 yX6_leaf yX6_leaf, Cond.code yX6_leaf cX6_leaf 6 (some .int), Cond.constant RX6 97 (4000000), Cond.constant RX6 101 (999999999), Cond.methodLink RX6 93 yX6_onlyOne, Cond.instanceMethod yX6_onlyOne, Cond.selects RX6 yX6_onlyOne yX6_onlyOne, Cond.code yX6_onlyOne cX6_onlyOne 6 (some .int), Cond.methodLink RX6 121 yX6_goesOn, Cond.instanceMethod yX6_goesOn, Cond.selects RX6 yX6_goesOn yX6_goesOn]
def wsL_law0_r18 : List Cond := [Cond.code yX6_goesOn cX6_goesOn 6 (some .boolean), Cond.methodLink RX6 106 yX6_copies, Cond.instanceMethod yX6_copies, Cond.selects RX6 yX6_copies yX6_copies, Cond.code yX6_copies cX6_copies 3 none, Cond.methodLink RX6 124 yX6_takes, Cond.instanceMethod yX6_takes, Cond.selects RX6 yX6_takes yX6_takes, Cond.code yX6_takes cX6_takes 5 none, Cond.methodLink RX6 137 yX6_layBehind, Cond.instanceMethod yX6_layBehind, Cond.selects RX6 yX6_layBehind yX6_layBehind, Cond.code yX6_layBehind cX6_layBehind 7 none, Cond.methodLink RL 116 yL_chance, Cond.static yL_chance, Cond.codeWith yL_chance cL_chance 4 (some .int) [(0, 8, 11, 13)], Cond.methodLink RL 41 yX5_chance, Cond.instanceMethod yX5_chance, Cond.selects RX5 yX5_chance yX5_chance, Cond.code yX5_chance cX5_chance 2 (some .double), Cond.constantDouble RX5 106 (4741671816366391296), Cond.methodLink RL 119 yX6_chance, Cond.instanceMethod yX6_chance, Cond.selects RX6 yX6_chance yX6_chance]
def wsL_law0_r19 : List Cond := [Cond.code yX6_chance cX6_chance 2 (some .double), Cond.constantDouble RX6 153 (4741671816366391296), Cond.methodLink RL 120 yL_ranked, Cond.static yL_ranked, Cond.codeWith yL_ranked cL_ranked 5 (some .int) [(0, 10, 13, 13)], Cond.methodLink RL 45 yX5_ranked, Cond.instanceMethod yX5_ranked, Cond.selects RX5 yX5_ranked yX5_ranked, Cond.code yX5_ranked cX5_ranked 5 (some .int), Cond.methodLink RX5 111 yX5_noteWorthsBehind, Cond.instanceMethod yX5_noteWorthsBehind, Cond.selects RX5 yX5_noteWorthsBehind yX5_noteWorthsBehind, Cond.code yX5_noteWorthsBehind cX5_noteWorthsBehind 8 none, Cond.methodLink RX5 114 yX5_countBetter, Cond.instanceMethod yX5_countBetter, Cond.selects RX5 yX5_countBetter yX5_countBetter, Cond.code yX5_countBetter cX5_countBetter 5 (some .int), Cond.methodLink RL 122 yX6_ranked, Cond.instanceMethod yX6_ranked, Cond.selects RX6 yX6_ranked yX6_ranked, Cond.code yX6_ranked cX6_ranked 8 (some .int), Cond.methodLink RL 123 yL_ending, Cond.static yL_ending, Cond.codeWith yL_ending cL_ending 6 (some .int) [(0, 12, 15, 13)]]
def wsL_law0_r20 : List Cond := [Cond.methodLink RL 48 yX5_ending, Cond.instanceMethod yX5_ending, Cond.selects RX5 yX5_ending yX5_ending, Cond.code yX5_ending cX5_ending 4 (some .int), Cond.methodLink RX5 118 yX5_refuseEnding, Cond.static yX5_refuseEnding, Cond.code yX5_refuseEnding cX5_refuseEnding 2 none, Cond.methodLink RX5 132 yX4_isShared, Cond.methodLink RL 126 yX6_ending, Cond.instanceMethod yX6_ending, Cond.selects RX6 yX6_ending yX6_ending, Cond.code yX6_ending cX6_ending 4 (some .int), Cond.methodLink RX6 86 yX6_ended, Cond.instanceMethod yX6_ended, Cond.selects RX6 yX6_ended yX6_ended, Cond.code yX6_ended cX6_ended 5 (some .int), Cond.methodLink RL 127 yL_endingByThrows, Cond.static yL_endingByThrows, Cond.codeWith yL_endingByThrows cL_endingByThrows 6 (some .int) [(0, 12, 15, 13)], Cond.methodLink RL 52 yX5_endingByThrows, Cond.instanceMethod yX5_endingByThrows, Cond.selects RX5 yX5_endingByThrows yX5_endingByThrows, Cond.code yX5_endingByThrows cX5_endingByThrows 4 (some .int), Cond.methodLink RX5 129 yX1_playedOut]
def wsL_law0_r21 : List Cond := [Cond.instanceMethod yX1_playedOut, Cond.selects RX1 yX1_playedOut yX1_playedOut, Cond.code yX1_playedOut cX1_playedOut 4 (some .int), Cond.methodLink RL 129 yX6_endingByThrows, Cond.instanceMethod yX6_endingByThrows, Cond.selects RX6 yX6_endingByThrows yX6_endingByThrows, Cond.code yX6_endingByThrows cX6_endingByThrows 4 (some .int)]
def wsL_law0 : List Cond := (wsL_law0_r1 ++ (wsL_law0_r2 ++ (wsL_law0_r3 ++ (wsL_law0_r4 ++ (wsL_law0_r5 ++ (wsL_law0_r6 ++ (wsL_law0_r7 ++ (wsL_law0_r8 ++ (wsL_law0_r9 ++ (wsL_law0_r10 ++ (wsL_law0_r11 ++ (wsL_law0_r12 ++ (wsL_law0_r13 ++ (wsL_law0_r14 ++ (wsL_law0_r15 ++ (wsL_law0_r16 ++ (wsL_law0_r17 ++ (wsL_law0_r18 ++ (wsL_law0_r19 ++ (wsL_law0_r20 ++ wsL_law0_r21)))))))))))))))))))) ++ wsX50 ++ wsX60 ++ wsX30 ++ wsX10 ++ ([] : List Cond)
def wsL_law : List Cond := wsL_law0 ++ (vx_at0 RX5 110 "java/lang/IllegalArgumentException" ["java/lang/RuntimeException", "java/lang/Exception"]).filter goodWord ++ (vx_at0 RX5 51 "java/lang/IllegalStateException" ["java/lang/RuntimeException", "java/lang/Exception"]).filter goodWord
abbrev vwCl : List vw_C := [(RX1, TX1, 2), (RX3, TX3, 2), (RX5, TX5, 9), (RX6, TX6, 19)]
end
section
theorem dX0_timesIn16_0 : decode cX0_timesIn16 0 = .ok (.iload_n 0, 1) := by decide +kernel
theorem dX0_timesIn16_1 : decode cX0_timesIn16 1 = .ok (.ifCond .lt 11, 3) := by decide +kernel
theorem dX0_timesIn16_4 : decode cX0_timesIn16 4 = .ok (.iload_n 0, 1) := by decide +kernel
theorem dX0_timesIn16_5 : decode cX0_timesIn16 5 = .ok (.getstatic 7, 3) := by decide +kernel
theorem dX0_timesIn16_8 : decode cX0_timesIn16 8 = .ok (.arraylength, 1) := by decide +kernel
theorem dX0_timesIn16_9 : decode cX0_timesIn16 9 = .ok (.if_icmp .lt 7, 3) := by decide +kernel
theorem dX0_timesIn16_12 : decode cX0_timesIn16 12 = .ok (.iconst 0, 1) := by decide +kernel
theorem dX0_timesIn16_13 : decode cX0_timesIn16 13 = .ok (.goto 8, 3) := by decide +kernel
theorem dX0_timesIn16_16 : decode cX0_timesIn16 16 = .ok (.getstatic 7, 3) := by decide +kernel
theorem dX0_timesIn16_19 : decode cX0_timesIn16 19 = .ok (.iload_n 0, 1) := by decide +kernel
theorem dX0_timesIn16_20 : decode cX0_timesIn16 20 = .ok (.iaload, 1) := by decide +kernel
theorem dX0_timesIn16_21 : decode cX0_timesIn16 21 = .ok (.ireturn, 1) := by decide +kernel
theorem dX1_init_0 : decode cX1_init 0 = .ok (.aload_n 0, 1) := by decide +kernel
theorem dX1_init_1 : decode cX1_init 1 = .ok (.invokespecial 5, 3) := by decide +kernel
theorem dX1_init_4 : decode cX1_init 4 = .ok (.aload_n 0, 1) := by decide +kernel
theorem dX1_init_5 : decode cX1_init 5 = .ok (.sipush 13500, 3) := by decide +kernel
theorem dX1_init_8 : decode cX1_init 8 = .ok (.newarray .int, 2) := by decide +kernel
theorem dX1_init_10 : decode cX1_init 10 = .ok (.putfield 13, 3) := by decide +kernel
theorem dX1_init_13 : decode cX1_init 13 = .ok (.return_, 1) := by decide +kernel
set_option maxRecDepth 20000 in
theorem ggX1_fillUpTo_X1_fillRow : GoodIn wsX1_fillUpTo wsX1_fillRow := goodIn_r _ [10, 11, 12, 13, 14, 9, 15, 16, 17, 18, 19, 20, 21, 22, 23, 24, 25, 26, 27, 28, 29, 30, 31, 32, 33, 34, 35, 36, 37, 38, 39, 40, 41, 42, 43] (by decide +kernel) (by decide +kernel)
set_option maxRecDepth 20000 in
theorem gX1_fillUpTo_X1_fillRow : GoodIn wsX1_fillUpTo (wsV RX1 27 RX1 yX1_fillRow wsX1_fillRow) := goodIn_app (goodIn_of _ (by decide +kernel)) ggX1_fillUpTo_X1_fillRow
theorem dX1_fillUpTo_0 : decode cX1_fillUpTo 0 = .ok (.iload_n 1, 1) := by decide +kernel
theorem dX1_fillUpTo_1 : decode cX1_fillUpTo 1 = .ok (.bipush 60, 2) := by decide +kernel
theorem dX1_fillUpTo_3 : decode cX1_fillUpTo 3 = .ok (.invokestatic 17, 3) := by decide +kernel
theorem dX1_fillUpTo_6 : decode cX1_fillUpTo 6 = .ok (.istore_n 2, 1) := by decide +kernel
theorem dX1_fillUpTo_7 : decode cX1_fillUpTo 7 = .ok (.aload_n 0, 1) := by decide +kernel
theorem dX1_fillUpTo_8 : decode cX1_fillUpTo 8 = .ok (.getfield 23, 3) := by decide +kernel
theorem dX1_fillUpTo_11 : decode cX1_fillUpTo 11 = .ok (.iconst 1, 1) := by decide +kernel
theorem dX1_fillUpTo_12 : decode cX1_fillUpTo 12 = .ok (.iadd, 1) := by decide +kernel
theorem dX1_fillUpTo_13 : decode cX1_fillUpTo 13 = .ok (.istore_n 3, 1) := by decide +kernel
theorem dX1_fillUpTo_14 : decode cX1_fillUpTo 14 = .ok (.iload_n 3, 1) := by decide +kernel
theorem dX1_fillUpTo_15 : decode cX1_fillUpTo 15 = .ok (.iload_n 2, 1) := by decide +kernel
theorem dX1_fillUpTo_16 : decode cX1_fillUpTo 16 = .ok (.if_icmp .gt 19, 3) := by decide +kernel
theorem dX1_fillUpTo_19 : decode cX1_fillUpTo 19 = .ok (.aload_n 0, 1) := by decide +kernel
theorem dX1_fillUpTo_20 : decode cX1_fillUpTo 20 = .ok (.iload_n 3, 1) := by decide +kernel
theorem dX1_fillUpTo_21 : decode cX1_fillUpTo 21 = .ok (.invokevirtual 27, 3) := by decide +kernel
theorem dX1_fillUpTo_24 : decode cX1_fillUpTo 24 = .ok (.aload_n 0, 1) := by decide +kernel
theorem dX1_fillUpTo_25 : decode cX1_fillUpTo 25 = .ok (.iload_n 3, 1) := by decide +kernel
theorem dX1_fillUpTo_26 : decode cX1_fillUpTo 26 = .ok (.putfield 23, 3) := by decide +kernel
theorem dX1_fillUpTo_29 : decode cX1_fillUpTo 29 = .ok (.iinc 3 1, 3) := by decide +kernel
theorem dX1_fillUpTo_32 : decode cX1_fillUpTo 32 = .ok (.goto (-18), 3) := by decide +kernel
theorem dX1_fillUpTo_35 : decode cX1_fillUpTo 35 = .ok (.return_, 1) := by decide +kernel
theorem dX1_held_0 : decode cX1_held 0 = .ok (.iload_n 3, 1) := by decide +kernel
theorem dX1_held_1 : decode cX1_held 1 = .ok (.ifCond .gt 6, 3) := by decide +kernel
theorem dX1_held_4 : decode cX1_held 4 = .ok (.ldc 31, 2) := by decide +kernel
theorem dX1_held_6 : decode cX1_held 6 = .ok (.ireturn, 1) := by decide +kernel
theorem dX1_held_7 : decode cX1_held 7 = .ok (.iload_n 3, 1) := by decide +kernel
theorem dX1_held_8 : decode cX1_held 8 = .ok (.iconst 1, 1) := by decide +kernel
theorem dX1_held_9 : decode cX1_held 9 = .ok (.isub, 1) := by decide +kernel
theorem dX1_held_10 : decode cX1_held 10 = .ok (.sipush 225, 3) := by decide +kernel
theorem dX1_held_13 : decode cX1_held 13 = .ok (.imul, 1) := by decide +kernel
theorem dX1_held_14 : decode cX1_held 14 = .ok (.iload_n 1, 1) := by decide +kernel
theorem dX1_held_15 : decode cX1_held 15 = .ok (.bipush 15, 2) := by decide +kernel
theorem dX1_held_17 : decode cX1_held 17 = .ok (.imul, 1) := by decide +kernel
theorem dX1_held_18 : decode cX1_held 18 = .ok (.iadd, 1) := by decide +kernel
theorem dX1_held_19 : decode cX1_held 19 = .ok (.iload_n 2, 1) := by decide +kernel
theorem dX1_held_20 : decode cX1_held 20 = .ok (.iadd, 1) := by decide +kernel
theorem dX1_held_21 : decode cX1_held 21 = .ok (.istore 4, 2) := by decide +kernel
theorem dX1_held_23 : decode cX1_held 23 = .ok (.iload 4, 2) := by decide +kernel
theorem dX1_held_25 : decode cX1_held 25 = .ok (.ifCond .lt 13, 3) := by decide +kernel
theorem dX1_held_28 : decode cX1_held 28 = .ok (.iload 4, 2) := by decide +kernel
theorem dX1_held_30 : decode cX1_held 30 = .ok (.aload_n 0, 1) := by decide +kernel
theorem dX1_held_31 : decode cX1_held 31 = .ok (.getfield 13, 3) := by decide +kernel
theorem dX1_held_34 : decode cX1_held 34 = .ok (.arraylength, 1) := by decide +kernel
theorem dX1_held_35 : decode cX1_held 35 = .ok (.if_icmp .lt 8, 3) := by decide +kernel
theorem dX1_held_38 : decode cX1_held 38 = .ok (.ldc 31, 2) := by decide +kernel
theorem dX1_held_40 : decode cX1_held 40 = .ok (.goto 10, 3) := by decide +kernel
theorem dX1_held_43 : decode cX1_held 43 = .ok (.aload_n 0, 1) := by decide +kernel
theorem dX1_held_44 : decode cX1_held 44 = .ok (.getfield 13, 3) := by decide +kernel
theorem dX1_held_47 : decode cX1_held 47 = .ok (.iload 4, 2) := by decide +kernel
theorem dX1_held_49 : decode cX1_held 49 = .ok (.iaload, 1) := by decide +kernel
theorem dX1_held_50 : decode cX1_held 50 = .ok (.ireturn, 1) := by decide +kernel
set_option maxRecDepth 20000 in
theorem ggX1_playedOut_X1_worthToThrow : GoodIn wsX1_playedOut wsX1_worthToThrow := goodIn_r _ [5, 6, 7, 8, 9, 4, 10, 11, 12, 13, 14, 15, 16, 17, 18, 19, 20, 21, 22, 23, 24, 25, 26, 1, 2, 3, 27, 28, 29, 30, 31, 32, 33, 34] (by decide +kernel) (by decide +kernel)
set_option maxRecDepth 20000 in
theorem gX1_playedOut_X1_worthToThrow : GoodIn wsX1_playedOut (wsV RX1 32 RX1 yX1_worthToThrow wsX1_worthToThrow) := goodIn_app (goodIn_of _ (by decide +kernel)) ggX1_playedOut_X1_worthToThrow
theorem dX1_playedOut_0 : decode cX1_playedOut 0 = .ok (.aload_n 0, 1) := by decide +kernel
theorem dX1_playedOut_1 : decode cX1_playedOut 1 = .ok (.iload_n 1, 1) := by decide +kernel
theorem dX1_playedOut_2 : decode cX1_playedOut 2 = .ok (.iload_n 2, 1) := by decide +kernel
theorem dX1_playedOut_3 : decode cX1_playedOut 3 = .ok (.iload_n 3, 1) := by decide +kernel
theorem dX1_playedOut_4 : decode cX1_playedOut 4 = .ok (.iconst 0, 1) := by decide +kernel
theorem dX1_playedOut_5 : decode cX1_playedOut 5 = .ok (.invokevirtual 32, 3) := by decide +kernel
theorem dX1_playedOut_8 : decode cX1_playedOut 8 = .ok (.ireturn, 1) := by decide +kernel
set_option maxRecDepth 20000 in
theorem ggX1_fillRow_X1_worthToThrow : GoodIn wsX1_fillRow wsX1_worthToThrow := goodIn_r _ [6, 7, 8, 9, 10, 5, 11, 12, 1, 13, 14, 15, 16, 17, 18, 19, 20, 21, 22, 23, 24, 25, 26, 2, 3, 4, 27, 28, 29, 30, 31, 32, 33, 34] (by decide +kernel) (by decide +kernel)
set_option maxRecDepth 20000 in
theorem gX1_fillRow_X1_worthToThrow : GoodIn wsX1_fillRow (wsV RX1 32 RX1 yX1_worthToThrow wsX1_worthToThrow) := goodIn_app (goodIn_of _ (by decide +kernel)) ggX1_fillRow_X1_worthToThrow
theorem dX1_fillRow_0 : decode cX1_fillRow 0 = .ok (.iload_n 1, 1) := by decide +kernel
theorem dX1_fillRow_1 : decode cX1_fillRow 1 = .ok (.iconst 1, 1) := by decide +kernel
theorem dX1_fillRow_2 : decode cX1_fillRow 2 = .ok (.isub, 1) := by decide +kernel
theorem dX1_fillRow_3 : decode cX1_fillRow 3 = .ok (.sipush 225, 3) := by decide +kernel
theorem dX1_fillRow_6 : decode cX1_fillRow 6 = .ok (.imul, 1) := by decide +kernel
theorem dX1_fillRow_7 : decode cX1_fillRow 7 = .ok (.istore_n 2, 1) := by decide +kernel
theorem dX1_fillRow_8 : decode cX1_fillRow 8 = .ok (.iconst 0, 1) := by decide +kernel
theorem dX1_fillRow_9 : decode cX1_fillRow 9 = .ok (.istore_n 3, 1) := by decide +kernel
theorem dX1_fillRow_10 : decode cX1_fillRow 10 = .ok (.iload_n 3, 1) := by decide +kernel
theorem dX1_fillRow_11 : decode cX1_fillRow 11 = .ok (.bipush 15, 2) := by decide +kernel
theorem dX1_fillRow_13 : decode cX1_fillRow 13 = .ok (.if_icmp .ge 58, 3) := by decide +kernel
theorem dX1_fillRow_16 : decode cX1_fillRow 16 = .ok (.iconst 0, 1) := by decide +kernel
theorem dX1_fillRow_17 : decode cX1_fillRow 17 = .ok (.istore 4, 2) := by decide +kernel
theorem dX1_fillRow_19 : decode cX1_fillRow 19 = .ok (.iload 4, 2) := by decide +kernel
theorem dX1_fillRow_21 : decode cX1_fillRow 21 = .ok (.bipush 15, 2) := by decide +kernel
theorem dX1_fillRow_23 : decode cX1_fillRow 23 = .ok (.if_icmp .ge 42, 3) := by decide +kernel
theorem dX1_fillRow_26 : decode cX1_fillRow 26 = .ok (.iload_n 2, 1) := by decide +kernel
theorem dX1_fillRow_27 : decode cX1_fillRow 27 = .ok (.ifCond .lt 29, 3) := by decide +kernel
theorem dX1_fillRow_30 : decode cX1_fillRow 30 = .ok (.iload_n 2, 1) := by decide +kernel
theorem dX1_fillRow_31 : decode cX1_fillRow 31 = .ok (.aload_n 0, 1) := by decide +kernel
theorem dX1_fillRow_32 : decode cX1_fillRow 32 = .ok (.getfield 13, 3) := by decide +kernel
theorem dX1_fillRow_35 : decode cX1_fillRow 35 = .ok (.arraylength, 1) := by decide +kernel
theorem dX1_fillRow_36 : decode cX1_fillRow 36 = .ok (.if_icmp .ge 20, 3) := by decide +kernel
theorem dX1_fillRow_39 : decode cX1_fillRow 39 = .ok (.aload_n 0, 1) := by decide +kernel
theorem dX1_fillRow_40 : decode cX1_fillRow 40 = .ok (.getfield 13, 3) := by decide +kernel
theorem dX1_fillRow_43 : decode cX1_fillRow 43 = .ok (.iload_n 2, 1) := by decide +kernel
theorem dX1_fillRow_44 : decode cX1_fillRow 44 = .ok (.aload_n 0, 1) := by decide +kernel
theorem dX1_fillRow_45 : decode cX1_fillRow 45 = .ok (.iload_n 3, 1) := by decide +kernel
theorem dX1_fillRow_46 : decode cX1_fillRow 46 = .ok (.iload 4, 2) := by decide +kernel
theorem dX1_fillRow_48 : decode cX1_fillRow 48 = .ok (.iload_n 1, 1) := by decide +kernel
theorem dX1_fillRow_49 : decode cX1_fillRow 49 = .ok (.iload_n 1, 1) := by decide +kernel
theorem dX1_fillRow_50 : decode cX1_fillRow 50 = .ok (.iconst 1, 1) := by decide +kernel
theorem dX1_fillRow_51 : decode cX1_fillRow 51 = .ok (.isub, 1) := by decide +kernel
theorem dX1_fillRow_52 : decode cX1_fillRow 52 = .ok (.invokevirtual 32, 3) := by decide +kernel
theorem dX1_fillRow_55 : decode cX1_fillRow 55 = .ok (.iastore, 1) := by decide +kernel
theorem dX1_fillRow_56 : decode cX1_fillRow 56 = .ok (.iinc 2 1, 3) := by decide +kernel
theorem dX1_fillRow_59 : decode cX1_fillRow 59 = .ok (.iinc 4 1, 3) := by decide +kernel
theorem dX1_fillRow_62 : decode cX1_fillRow 62 = .ok (.goto (-43), 3) := by decide +kernel
theorem dX1_fillRow_65 : decode cX1_fillRow 65 = .ok (.iinc 3 1, 3) := by decide +kernel
theorem dX1_fillRow_68 : decode cX1_fillRow 68 = .ok (.goto (-58), 3) := by decide +kernel
theorem dX1_fillRow_71 : decode cX1_fillRow 71 = .ok (.return_, 1) := by decide +kernel
set_option maxRecDepth 20000 in
theorem ggX1_worthToThrow_X1_held : GoodIn wsX1_worthToThrow wsX1_held := goodIn_r _ [6, 7, 8, 32, 33] (by decide +kernel) (by decide +kernel)
set_option maxRecDepth 20000 in
theorem gX1_worthToThrow_X1_held : GoodIn wsX1_worthToThrow (wsV RX1 36 RX1 yX1_held wsX1_held) := goodIn_app (goodIn_of _ (by decide +kernel)) ggX1_worthToThrow_X1_held
set_option maxRecDepth 20000 in
theorem ggX1_worthToThrow_X0_timesIn16 : GoodIn wsX1_worthToThrow wsX0_timesIn16 := goodIn_r _ [12, 13] (by decide +kernel) (by decide +kernel)
set_option maxRecDepth 20000 in
theorem gX1_worthToThrow_X0_timesIn16 : GoodIn wsX1_worthToThrow (va_wsS RX1 42 yX0_timesIn16 wsX0_timesIn16) := goodIn_app (goodIn_of _ (by decide +kernel)) ggX1_worthToThrow_X0_timesIn16
set_option maxRecDepth 20000 in
theorem ggX1_worthToThrow_X1_worthBehindThrow : GoodIn wsX1_worthToThrow wsX1_worthBehindThrow := goodIn_r _ [17, 18, 19, 20, 21, 22, 23, 24, 25, 5, 26, 27, 28, 29, 30, 31, 0, 1, 2, 3, 4, 6, 7, 8, 9, 10, 11, 12, 13, 14, 15, 16, 32, 33] (by decide +kernel) (by decide +kernel)
set_option maxRecDepth 20000 in
theorem gX1_worthToThrow_X1_worthBehindThrow : GoodIn wsX1_worthToThrow (wsV RX1 46 RX1 yX1_worthBehindThrow wsX1_worthBehindThrow) := goodIn_app (goodIn_of _ (by decide +kernel)) ggX1_worthToThrow_X1_worthBehindThrow
theorem dX1_worthToThrow_0 : decode cX1_worthToThrow 0 = .ok (.iload_n 3, 1) := by decide +kernel
theorem dX1_worthToThrow_1 : decode cX1_worthToThrow 1 = .ok (.iload 4, 2) := by decide +kernel
theorem dX1_worthToThrow_3 : decode cX1_worthToThrow 3 = .ok (.if_icmp .gt 11, 3) := by decide +kernel
theorem dX1_worthToThrow_6 : decode cX1_worthToThrow 6 = .ok (.aload_n 0, 1) := by decide +kernel
theorem dX1_worthToThrow_7 : decode cX1_worthToThrow 7 = .ok (.iload_n 1, 1) := by decide +kernel
theorem dX1_worthToThrow_8 : decode cX1_worthToThrow 8 = .ok (.iload_n 2, 1) := by decide +kernel
theorem dX1_worthToThrow_9 : decode cX1_worthToThrow 9 = .ok (.iload_n 3, 1) := by decide +kernel
theorem dX1_worthToThrow_10 : decode cX1_worthToThrow 10 = .ok (.invokevirtual 36, 3) := by decide +kernel
theorem dX1_worthToThrow_13 : decode cX1_worthToThrow 13 = .ok (.ireturn, 1) := by decide +kernel
theorem dX1_worthToThrow_14 : decode cX1_worthToThrow 14 = .ok (.lconst 0, 1) := by decide +kernel
theorem dX1_worthToThrow_15 : decode cX1_worthToThrow 15 = .ok (.lstore 5, 2) := by decide +kernel
theorem dX1_worthToThrow_17 : decode cX1_worthToThrow 17 = .ok (.iconst 0, 1) := by decide +kernel
theorem dX1_worthToThrow_18 : decode cX1_worthToThrow 18 = .ok (.istore 7, 2) := by decide +kernel
theorem dX1_worthToThrow_20 : decode cX1_worthToThrow 20 = .ok (.iload 7, 2) := by decide +kernel
theorem dX1_worthToThrow_22 : decode cX1_worthToThrow 22 = .ok (.iconst 4, 1) := by decide +kernel
theorem dX1_worthToThrow_23 : decode cX1_worthToThrow 23 = .ok (.if_icmp .gt 35, 3) := by decide +kernel
theorem dX1_worthToThrow_26 : decode cX1_worthToThrow 26 = .ok (.lload 5, 2) := by decide +kernel
theorem dX1_worthToThrow_28 : decode cX1_worthToThrow 28 = .ok (.iload 7, 2) := by decide +kernel
theorem dX1_worthToThrow_30 : decode cX1_worthToThrow 30 = .ok (.invokestatic 42, 3) := by decide +kernel
theorem dX1_worthToThrow_33 : decode cX1_worthToThrow 33 = .ok (.i2l, 1) := by decide +kernel
theorem dX1_worthToThrow_34 : decode cX1_worthToThrow 34 = .ok (.aload_n 0, 1) := by decide +kernel
theorem dX1_worthToThrow_35 : decode cX1_worthToThrow 35 = .ok (.iload_n 1, 1) := by decide +kernel
theorem dX1_worthToThrow_36 : decode cX1_worthToThrow 36 = .ok (.iload_n 2, 1) := by decide +kernel
theorem dX1_worthToThrow_37 : decode cX1_worthToThrow 37 = .ok (.iload 7, 2) := by decide +kernel
theorem dX1_worthToThrow_39 : decode cX1_worthToThrow 39 = .ok (.iload_n 3, 1) := by decide +kernel
theorem dX1_worthToThrow_40 : decode cX1_worthToThrow 40 = .ok (.iconst 1, 1) := by decide +kernel
theorem dX1_worthToThrow_41 : decode cX1_worthToThrow 41 = .ok (.isub, 1) := by decide +kernel
theorem dX1_worthToThrow_42 : decode cX1_worthToThrow 42 = .ok (.iload 4, 2) := by decide +kernel
theorem dX1_worthToThrow_44 : decode cX1_worthToThrow 44 = .ok (.invokevirtual 46, 3) := by decide +kernel
theorem dX1_worthToThrow_47 : decode cX1_worthToThrow 47 = .ok (.i2l, 1) := by decide +kernel
theorem dX1_worthToThrow_48 : decode cX1_worthToThrow 48 = .ok (.lmul, 1) := by decide +kernel
theorem dX1_worthToThrow_49 : decode cX1_worthToThrow 49 = .ok (.ladd, 1) := by decide +kernel
theorem dX1_worthToThrow_50 : decode cX1_worthToThrow 50 = .ok (.lstore 5, 2) := by decide +kernel
theorem dX1_worthToThrow_52 : decode cX1_worthToThrow 52 = .ok (.iinc 7 1, 3) := by decide +kernel
theorem dX1_worthToThrow_55 : decode cX1_worthToThrow 55 = .ok (.goto (-35), 3) := by decide +kernel
theorem dX1_worthToThrow_58 : decode cX1_worthToThrow 58 = .ok (.lload 5, 2) := by decide +kernel
theorem dX1_worthToThrow_60 : decode cX1_worthToThrow 60 = .ok (.ldc2_w 50, 3) := by decide +kernel
theorem dX1_worthToThrow_63 : decode cX1_worthToThrow 63 = .ok (.ldiv, 1) := by decide +kernel
theorem dX1_worthToThrow_64 : decode cX1_worthToThrow 64 = .ok (.l2i, 1) := by decide +kernel
theorem dX1_worthToThrow_65 : decode cX1_worthToThrow 65 = .ok (.ireturn, 1) := by decide +kernel
set_option maxRecDepth 20000 in
theorem ggX1_worthBehindThrow_X4_canEnter : GoodIn wsX1_worthBehindThrow wsX4_canEnter := goodIn_r _ [5] (by decide +kernel) (by decide +kernel)
set_option maxRecDepth 20000 in
theorem gX1_worthBehindThrow_X4_canEnter : GoodIn wsX1_worthBehindThrow (va_wsS RX1 52 yX4_canEnter wsX4_canEnter) := goodIn_app (goodIn_of _ (by decide +kernel)) ggX1_worthBehindThrow_X4_canEnter
set_option maxRecDepth 20000 in
theorem ggX1_worthBehindThrow_X1_worthToThrow : GoodIn wsX1_worthBehindThrow wsX1_worthToThrow := goodIn_r _ [16, 17, 18, 19, 20, 9, 21, 22, 23, 24, 25, 26, 27, 28, 29, 30, 31, 0, 1, 2, 3, 4, 5, 6, 7, 8, 10, 11, 12, 13, 14, 15, 32, 33] (by decide +kernel) (by decide +kernel)
set_option maxRecDepth 20000 in
theorem gX1_worthBehindThrow_X1_worthToThrow : GoodIn wsX1_worthBehindThrow (wsV RX1 32 RX1 yX1_worthToThrow wsX1_worthToThrow) := goodIn_app (goodIn_of _ (by decide +kernel)) ggX1_worthBehindThrow_X1_worthToThrow
set_option maxRecDepth 20000 in
theorem ggX1_worthBehindThrow_X4_isShared : GoodIn wsX1_worthBehindThrow wsX4_isShared := goodIn_r _ [12] (by decide +kernel) (by decide +kernel)
set_option maxRecDepth 20000 in
theorem gX1_worthBehindThrow_X4_isShared : GoodIn wsX1_worthBehindThrow (va_wsS RX1 57 yX4_isShared wsX4_isShared) := goodIn_app (goodIn_of _ (by decide +kernel)) ggX1_worthBehindThrow_X4_isShared
set_option maxRecDepth 20000 in
theorem ggX1_worthBehindThrow_X4_isRosette : GoodIn wsX1_worthBehindThrow wsX4_isRosette := goodIn_r _ [15] (by decide +kernel) (by decide +kernel)
set_option maxRecDepth 20000 in
theorem gX1_worthBehindThrow_X4_isRosette : GoodIn wsX1_worthBehindThrow (va_wsS RX1 61 yX4_isRosette wsX4_isRosette) := goodIn_app (goodIn_of _ (by decide +kernel)) ggX1_worthBehindThrow_X4_isRosette
theorem dX1_worthBehindThrow_0 : decode cX1_worthBehindThrow 0 = .ok (.iload_n 1, 1) := by decide +kernel
theorem dX1_worthBehindThrow_1 : decode cX1_worthBehindThrow 1 = .ok (.iload_n 3, 1) := by decide +kernel
theorem dX1_worthBehindThrow_2 : decode cX1_worthBehindThrow 2 = .ok (.iadd, 1) := by decide +kernel
theorem dX1_worthBehindThrow_3 : decode cX1_worthBehindThrow 3 = .ok (.istore 6, 2) := by decide +kernel
theorem dX1_worthBehindThrow_5 : decode cX1_worthBehindThrow 5 = .ok (.iload_n 3, 1) := by decide +kernel
theorem dX1_worthBehindThrow_6 : decode cX1_worthBehindThrow 6 = .ok (.ifCond .eq 23, 3) := by decide +kernel
theorem dX1_worthBehindThrow_9 : decode cX1_worthBehindThrow 9 = .ok (.iload 6, 2) := by decide +kernel
theorem dX1_worthBehindThrow_11 : decode cX1_worthBehindThrow 11 = .ok (.iconst 0, 1) := by decide +kernel
theorem dX1_worthBehindThrow_12 : decode cX1_worthBehindThrow 12 = .ok (.iload_n 2, 1) := by decide +kernel
theorem dX1_worthBehindThrow_13 : decode cX1_worthBehindThrow 13 = .ok (.iload 6, 2) := by decide +kernel
theorem dX1_worthBehindThrow_15 : decode cX1_worthBehindThrow 15 = .ok (.if_icmp .ne 7, 3) := by decide +kernel
theorem dX1_worthBehindThrow_18 : decode cX1_worthBehindThrow 18 = .ok (.iconst 1, 1) := by decide +kernel
theorem dX1_worthBehindThrow_19 : decode cX1_worthBehindThrow 19 = .ok (.goto 4, 3) := by decide +kernel
theorem dX1_worthBehindThrow_22 : decode cX1_worthBehindThrow 22 = .ok (.iconst 0, 1) := by decide +kernel
theorem dX1_worthBehindThrow_23 : decode cX1_worthBehindThrow 23 = .ok (.invokestatic 52, 3) := by decide +kernel
theorem dX1_worthBehindThrow_26 : decode cX1_worthBehindThrow 26 = .ok (.ifCond .ne 17, 3) := by decide +kernel
theorem dX1_worthBehindThrow_29 : decode cX1_worthBehindThrow 29 = .ok (.ldc 56, 2) := by decide +kernel
theorem dX1_worthBehindThrow_31 : decode cX1_worthBehindThrow 31 = .ok (.aload_n 0, 1) := by decide +kernel
theorem dX1_worthBehindThrow_32 : decode cX1_worthBehindThrow 32 = .ok (.iload_n 2, 1) := by decide +kernel
theorem dX1_worthBehindThrow_33 : decode cX1_worthBehindThrow 33 = .ok (.iload_n 1, 1) := by decide +kernel
theorem dX1_worthBehindThrow_34 : decode cX1_worthBehindThrow 34 = .ok (.iload 4, 2) := by decide +kernel
theorem dX1_worthBehindThrow_36 : decode cX1_worthBehindThrow 36 = .ok (.iload 5, 2) := by decide +kernel
theorem dX1_worthBehindThrow_38 : decode cX1_worthBehindThrow 38 = .ok (.invokevirtual 32, 3) := by decide +kernel
theorem dX1_worthBehindThrow_41 : decode cX1_worthBehindThrow 41 = .ok (.isub, 1) := by decide +kernel
theorem dX1_worthBehindThrow_42 : decode cX1_worthBehindThrow 42 = .ok (.ireturn, 1) := by decide +kernel
theorem dX1_worthBehindThrow_43 : decode cX1_worthBehindThrow 43 = .ok (.iload 6, 2) := by decide +kernel
theorem dX1_worthBehindThrow_45 : decode cX1_worthBehindThrow 45 = .ok (.bipush 15, 2) := by decide +kernel
theorem dX1_worthBehindThrow_47 : decode cX1_worthBehindThrow 47 = .ok (.if_icmp .ne 6, 3) := by decide +kernel
theorem dX1_worthBehindThrow_50 : decode cX1_worthBehindThrow 50 = .ok (.ldc 56, 2) := by decide +kernel
theorem dX1_worthBehindThrow_52 : decode cX1_worthBehindThrow 52 = .ok (.ireturn, 1) := by decide +kernel
theorem dX1_worthBehindThrow_53 : decode cX1_worthBehindThrow 53 = .ok (.iload_n 2, 1) := by decide +kernel
theorem dX1_worthBehindThrow_54 : decode cX1_worthBehindThrow 54 = .ok (.iload 6, 2) := by decide +kernel
theorem dX1_worthBehindThrow_56 : decode cX1_worthBehindThrow 56 = .ok (.if_icmp .ne 15, 3) := by decide +kernel
theorem dX1_worthBehindThrow_59 : decode cX1_worthBehindThrow 59 = .ok (.iload 6, 2) := by decide +kernel
theorem dX1_worthBehindThrow_61 : decode cX1_worthBehindThrow 61 = .ok (.invokestatic 57, 3) := by decide +kernel
theorem dX1_worthBehindThrow_64 : decode cX1_worthBehindThrow 64 = .ok (.ifCond .eq 7, 3) := by decide +kernel
theorem dX1_worthBehindThrow_67 : decode cX1_worthBehindThrow 67 = .ok (.iconst 0, 1) := by decide +kernel
theorem dX1_worthBehindThrow_68 : decode cX1_worthBehindThrow 68 = .ok (.goto 4, 3) := by decide +kernel
theorem dX1_worthBehindThrow_71 : decode cX1_worthBehindThrow 71 = .ok (.iload_n 2, 1) := by decide +kernel
theorem dX1_worthBehindThrow_72 : decode cX1_worthBehindThrow 72 = .ok (.istore 7, 2) := by decide +kernel
theorem dX1_worthBehindThrow_74 : decode cX1_worthBehindThrow 74 = .ok (.iload 6, 2) := by decide +kernel
theorem dX1_worthBehindThrow_76 : decode cX1_worthBehindThrow 76 = .ok (.invokestatic 61, 3) := by decide +kernel
theorem dX1_worthBehindThrow_79 : decode cX1_worthBehindThrow 79 = .ok (.ifCond .eq 16, 3) := by decide +kernel
theorem dX1_worthBehindThrow_82 : decode cX1_worthBehindThrow 82 = .ok (.aload_n 0, 1) := by decide +kernel
theorem dX1_worthBehindThrow_83 : decode cX1_worthBehindThrow 83 = .ok (.iload 6, 2) := by decide +kernel
theorem dX1_worthBehindThrow_85 : decode cX1_worthBehindThrow 85 = .ok (.iload 7, 2) := by decide +kernel
theorem dX1_worthBehindThrow_87 : decode cX1_worthBehindThrow 87 = .ok (.iload 4, 2) := by decide +kernel
theorem dX1_worthBehindThrow_89 : decode cX1_worthBehindThrow 89 = .ok (.iload 5, 2) := by decide +kernel
theorem dX1_worthBehindThrow_91 : decode cX1_worthBehindThrow 91 = .ok (.invokevirtual 32, 3) := by decide +kernel
theorem dX1_worthBehindThrow_94 : decode cX1_worthBehindThrow 94 = .ok (.ireturn, 1) := by decide +kernel
theorem dX1_worthBehindThrow_95 : decode cX1_worthBehindThrow 95 = .ok (.ldc 56, 2) := by decide +kernel
theorem dX1_worthBehindThrow_97 : decode cX1_worthBehindThrow 97 = .ok (.aload_n 0, 1) := by decide +kernel
theorem dX1_worthBehindThrow_98 : decode cX1_worthBehindThrow 98 = .ok (.iload 7, 2) := by decide +kernel
theorem dX1_worthBehindThrow_100 : decode cX1_worthBehindThrow 100 = .ok (.iload 6, 2) := by decide +kernel
theorem dX1_worthBehindThrow_102 : decode cX1_worthBehindThrow 102 = .ok (.iload 4, 2) := by decide +kernel
theorem dX1_worthBehindThrow_104 : decode cX1_worthBehindThrow 104 = .ok (.iload 5, 2) := by decide +kernel
theorem dX1_worthBehindThrow_106 : decode cX1_worthBehindThrow 106 = .ok (.invokevirtual 32, 3) := by decide +kernel
theorem dX1_worthBehindThrow_109 : decode cX1_worthBehindThrow 109 = .ok (.isub, 1) := by decide +kernel
theorem dX1_worthBehindThrow_110 : decode cX1_worthBehindThrow 110 = .ok (.ireturn, 1) := by decide +kernel
theorem dX2_allAtStart_0 : decode cX2_allAtStart 0 = .ok (.iload_n 0, 1) := by decide +kernel
theorem dX2_allAtStart_1 : decode cX2_allAtStart 1 = .ok (.i2l, 1) := by decide +kernel
theorem dX2_allAtStart_2 : decode cX2_allAtStart 2 = .ok (.lreturn, 1) := by decide +kernel
theorem dX2_countAt_0 : decode cX2_countAt 0 = .ok (.iload_n 2, 1) := by decide +kernel
theorem dX2_countAt_1 : decode cX2_countAt 1 = .ok (.ifCond .lt 9, 3) := by decide +kernel
theorem dX2_countAt_4 : decode cX2_countAt 4 = .ok (.iload_n 2, 1) := by decide +kernel
theorem dX2_countAt_5 : decode cX2_countAt 5 = .ok (.bipush 15, 2) := by decide +kernel
theorem dX2_countAt_7 : decode cX2_countAt 7 = .ok (.if_icmp .le 7, 3) := by decide +kernel
theorem dX2_countAt_10 : decode cX2_countAt 10 = .ok (.iconst 0, 1) := by decide +kernel
theorem dX2_countAt_11 : decode cX2_countAt 11 = .ok (.goto 12, 3) := by decide +kernel
theorem dX2_countAt_14 : decode cX2_countAt 14 = .ok (.lload_n 0, 1) := by decide +kernel
theorem dX2_countAt_15 : decode cX2_countAt 15 = .ok (.iconst 4, 1) := by decide +kernel
theorem dX2_countAt_16 : decode cX2_countAt 16 = .ok (.iload_n 2, 1) := by decide +kernel
theorem dX2_countAt_17 : decode cX2_countAt 17 = .ok (.imul, 1) := by decide +kernel
theorem dX2_countAt_18 : decode cX2_countAt 18 = .ok (.lushr, 1) := by decide +kernel
theorem dX2_countAt_19 : decode cX2_countAt 19 = .ok (.l2i, 1) := by decide +kernel
theorem dX2_countAt_20 : decode cX2_countAt 20 = .ok (.bipush 15, 2) := by decide +kernel
theorem dX2_countAt_22 : decode cX2_countAt 22 = .ok (.iand, 1) := by decide +kernel
theorem dX2_countAt_23 : decode cX2_countAt 23 = .ok (.ireturn, 1) := by decide +kernel
theorem dX2_shifted_0 : decode cX2_shifted 0 = .ok (.lload_n 0, 1) := by decide +kernel
theorem dX2_shifted_1 : decode cX2_shifted 1 = .ok (.lconst 1, 1) := by decide +kernel
theorem dX2_shifted_2 : decode cX2_shifted 2 = .ok (.iconst 4, 1) := by decide +kernel
theorem dX2_shifted_3 : decode cX2_shifted 3 = .ok (.iload_n 2, 1) := by decide +kernel
theorem dX2_shifted_4 : decode cX2_shifted 4 = .ok (.imul, 1) := by decide +kernel
theorem dX2_shifted_5 : decode cX2_shifted 5 = .ok (.lshl, 1) := by decide +kernel
theorem dX2_shifted_6 : decode cX2_shifted 6 = .ok (.lsub, 1) := by decide +kernel
theorem dX2_shifted_7 : decode cX2_shifted 7 = .ok (.lconst 1, 1) := by decide +kernel
theorem dX2_shifted_8 : decode cX2_shifted 8 = .ok (.iconst 4, 1) := by decide +kernel
theorem dX2_shifted_9 : decode cX2_shifted 9 = .ok (.iload_n 3, 1) := by decide +kernel
theorem dX2_shifted_10 : decode cX2_shifted 10 = .ok (.imul, 1) := by decide +kernel
theorem dX2_shifted_11 : decode cX2_shifted 11 = .ok (.lshl, 1) := by decide +kernel
theorem dX2_shifted_12 : decode cX2_shifted 12 = .ok (.ladd, 1) := by decide +kernel
theorem dX2_shifted_13 : decode cX2_shifted 13 = .ok (.lreturn, 1) := by decide +kernel
theorem dX2_isAllHome_0 : decode cX2_isAllHome 0 = .ok (.lload_n 0, 1) := by decide +kernel
theorem dX2_isAllHome_1 : decode cX2_isAllHome 1 = .ok (.ldc2_w 11, 3) := by decide +kernel
theorem dX2_isAllHome_4 : decode cX2_isAllHome 4 = .ok (.land, 1) := by decide +kernel
theorem dX2_isAllHome_5 : decode cX2_isAllHome 5 = .ok (.lconst 0, 1) := by decide +kernel
theorem dX2_isAllHome_6 : decode cX2_isAllHome 6 = .ok (.lcmp, 1) := by decide +kernel
theorem dX2_isAllHome_7 : decode cX2_isAllHome 7 = .ok (.ifCond .ne 7, 3) := by decide +kernel
theorem dX2_isAllHome_10 : decode cX2_isAllHome 10 = .ok (.iconst 1, 1) := by decide +kernel
theorem dX2_isAllHome_11 : decode cX2_isAllHome 11 = .ok (.goto 4, 3) := by decide +kernel
theorem dX2_isAllHome_14 : decode cX2_isAllHome 14 = .ok (.iconst 0, 1) := by decide +kernel
theorem dX2_isAllHome_15 : decode cX2_isAllHome 15 = .ok (.ireturn, 1) := by decide +kernel
set_option maxRecDepth 20000 in
theorem ggX2_sumOfPlaces_X2_countAt : GoodIn wsX2_sumOfPlaces wsX2_countAt := goodIn_r _ [4] (by decide +kernel) (by decide +kernel)
set_option maxRecDepth 20000 in
theorem gX2_sumOfPlaces_X2_countAt : GoodIn wsX2_sumOfPlaces (va_wsS RX2 13 yX2_countAt wsX2_countAt) := goodIn_app (goodIn_of _ (by decide +kernel)) ggX2_sumOfPlaces_X2_countAt
theorem dX2_sumOfPlaces_0 : decode cX2_sumOfPlaces 0 = .ok (.iconst 0, 1) := by decide +kernel
theorem dX2_sumOfPlaces_1 : decode cX2_sumOfPlaces 1 = .ok (.istore_n 2, 1) := by decide +kernel
theorem dX2_sumOfPlaces_2 : decode cX2_sumOfPlaces 2 = .ok (.iconst 1, 1) := by decide +kernel
theorem dX2_sumOfPlaces_3 : decode cX2_sumOfPlaces 3 = .ok (.istore_n 3, 1) := by decide +kernel
theorem dX2_sumOfPlaces_4 : decode cX2_sumOfPlaces 4 = .ok (.iload_n 3, 1) := by decide +kernel
theorem dX2_sumOfPlaces_5 : decode cX2_sumOfPlaces 5 = .ok (.bipush 15, 2) := by decide +kernel
theorem dX2_sumOfPlaces_7 : decode cX2_sumOfPlaces 7 = .ok (.if_icmp .gt 19, 3) := by decide +kernel
theorem dX2_sumOfPlaces_10 : decode cX2_sumOfPlaces 10 = .ok (.iload_n 2, 1) := by decide +kernel
theorem dX2_sumOfPlaces_11 : decode cX2_sumOfPlaces 11 = .ok (.iload_n 3, 1) := by decide +kernel
theorem dX2_sumOfPlaces_12 : decode cX2_sumOfPlaces 12 = .ok (.lload_n 0, 1) := by decide +kernel
theorem dX2_sumOfPlaces_13 : decode cX2_sumOfPlaces 13 = .ok (.iload_n 3, 1) := by decide +kernel
theorem dX2_sumOfPlaces_14 : decode cX2_sumOfPlaces 14 = .ok (.invokestatic 13, 3) := by decide +kernel
theorem dX2_sumOfPlaces_17 : decode cX2_sumOfPlaces 17 = .ok (.imul, 1) := by decide +kernel
theorem dX2_sumOfPlaces_18 : decode cX2_sumOfPlaces 18 = .ok (.iadd, 1) := by decide +kernel
theorem dX2_sumOfPlaces_19 : decode cX2_sumOfPlaces 19 = .ok (.istore_n 2, 1) := by decide +kernel
theorem dX2_sumOfPlaces_20 : decode cX2_sumOfPlaces 20 = .ok (.iinc 3 1, 3) := by decide +kernel
theorem dX2_sumOfPlaces_23 : decode cX2_sumOfPlaces 23 = .ok (.goto (-19), 3) := by decide +kernel
theorem dX2_sumOfPlaces_26 : decode cX2_sumOfPlaces 26 = .ok (.iload_n 2, 1) := by decide +kernel
theorem dX2_sumOfPlaces_27 : decode cX2_sumOfPlaces 27 = .ok (.ireturn, 1) := by decide +kernel
set_option maxRecDepth 20000 in
theorem ggX2_firstPlace_X2_countAt : GoodIn wsX2_firstPlace wsX2_countAt := goodIn_r _ [4] (by decide +kernel) (by decide +kernel)
set_option maxRecDepth 20000 in
theorem gX2_firstPlace_X2_countAt : GoodIn wsX2_firstPlace (va_wsS RX2 13 yX2_countAt wsX2_countAt) := goodIn_app (goodIn_of _ (by decide +kernel)) ggX2_firstPlace_X2_countAt
theorem dX2_firstPlace_0 : decode cX2_firstPlace 0 = .ok (.iconst 0, 1) := by decide +kernel
theorem dX2_firstPlace_1 : decode cX2_firstPlace 1 = .ok (.istore_n 2, 1) := by decide +kernel
theorem dX2_firstPlace_2 : decode cX2_firstPlace 2 = .ok (.iload_n 2, 1) := by decide +kernel
theorem dX2_firstPlace_3 : decode cX2_firstPlace 3 = .ok (.bipush 15, 2) := by decide +kernel
theorem dX2_firstPlace_5 : decode cX2_firstPlace 5 = .ok (.if_icmp .ge 17, 3) := by decide +kernel
theorem dX2_firstPlace_8 : decode cX2_firstPlace 8 = .ok (.lload_n 0, 1) := by decide +kernel
theorem dX2_firstPlace_9 : decode cX2_firstPlace 9 = .ok (.iload_n 2, 1) := by decide +kernel
theorem dX2_firstPlace_10 : decode cX2_firstPlace 10 = .ok (.invokestatic 13, 3) := by decide +kernel
theorem dX2_firstPlace_13 : decode cX2_firstPlace 13 = .ok (.ifCond .ne 9, 3) := by decide +kernel
theorem dX2_firstPlace_16 : decode cX2_firstPlace 16 = .ok (.iinc 2 1, 3) := by decide +kernel
theorem dX2_firstPlace_19 : decode cX2_firstPlace 19 = .ok (.goto (-17), 3) := by decide +kernel
theorem dX2_firstPlace_22 : decode cX2_firstPlace 22 = .ok (.iload_n 2, 1) := by decide +kernel
theorem dX2_firstPlace_23 : decode cX2_firstPlace 23 = .ok (.ireturn, 1) := by decide +kernel
set_option maxRecDepth 20000 in
theorem ggX2_canMove_X2_countAt : GoodIn wsX2_canMove wsX2_countAt := goodIn_r _ [4] (by decide +kernel) (by decide +kernel)
set_option maxRecDepth 20000 in
theorem gX2_canMove_X2_countAt : GoodIn wsX2_canMove (va_wsS RX2 13 yX2_countAt wsX2_countAt) := goodIn_app (goodIn_of _ (by decide +kernel)) ggX2_canMove_X2_countAt
set_option maxRecDepth 20000 in
theorem ggX2_canMove_X4_canEnter : GoodIn wsX2_canMove wsX4_canEnter := goodIn_r _ [8] (by decide +kernel) (by decide +kernel)
set_option maxRecDepth 20000 in
theorem gX2_canMove_X4_canEnter : GoodIn wsX2_canMove (va_wsS RX2 17 yX4_canEnter wsX4_canEnter) := goodIn_app (goodIn_of _ (by decide +kernel)) ggX2_canMove_X4_canEnter
theorem dX2_canMove_0 : decode cX2_canMove 0 = .ok (.iload 5, 2) := by decide +kernel
theorem dX2_canMove_2 : decode cX2_canMove 2 = .ok (.ifCond .le 12, 3) := by decide +kernel
theorem dX2_canMove_5 : decode cX2_canMove 5 = .ok (.lload_n 0, 1) := by decide +kernel
theorem dX2_canMove_6 : decode cX2_canMove 6 = .ok (.iload 4, 2) := by decide +kernel
theorem dX2_canMove_8 : decode cX2_canMove 8 = .ok (.invokestatic 13, 3) := by decide +kernel
theorem dX2_canMove_11 : decode cX2_canMove 11 = .ok (.ifCond .ne 5, 3) := by decide +kernel
theorem dX2_canMove_14 : decode cX2_canMove 14 = .ok (.iconst 0, 1) := by decide +kernel
theorem dX2_canMove_15 : decode cX2_canMove 15 = .ok (.ireturn, 1) := by decide +kernel
theorem dX2_canMove_16 : decode cX2_canMove 16 = .ok (.iload 4, 2) := by decide +kernel
theorem dX2_canMove_18 : decode cX2_canMove 18 = .ok (.iload 5, 2) := by decide +kernel
theorem dX2_canMove_20 : decode cX2_canMove 20 = .ok (.iadd, 1) := by decide +kernel
theorem dX2_canMove_21 : decode cX2_canMove 21 = .ok (.istore 6, 2) := by decide +kernel
theorem dX2_canMove_23 : decode cX2_canMove 23 = .ok (.iload 6, 2) := by decide +kernel
theorem dX2_canMove_25 : decode cX2_canMove 25 = .ok (.lload_n 0, 1) := by decide +kernel
theorem dX2_canMove_26 : decode cX2_canMove 26 = .ok (.iload 6, 2) := by decide +kernel
theorem dX2_canMove_28 : decode cX2_canMove 28 = .ok (.invokestatic 13, 3) := by decide +kernel
theorem dX2_canMove_31 : decode cX2_canMove 31 = .ok (.ifCond .le 7, 3) := by decide +kernel
theorem dX2_canMove_34 : decode cX2_canMove 34 = .ok (.iconst 1, 1) := by decide +kernel
theorem dX2_canMove_35 : decode cX2_canMove 35 = .ok (.goto 4, 3) := by decide +kernel
theorem dX2_canMove_38 : decode cX2_canMove 38 = .ok (.iconst 0, 1) := by decide +kernel
theorem dX2_canMove_39 : decode cX2_canMove 39 = .ok (.lload_n 2, 1) := by decide +kernel
theorem dX2_canMove_40 : decode cX2_canMove 40 = .ok (.iload 6, 2) := by decide +kernel
theorem dX2_canMove_42 : decode cX2_canMove 42 = .ok (.invokestatic 13, 3) := by decide +kernel
theorem dX2_canMove_45 : decode cX2_canMove 45 = .ok (.ifCond .le 7, 3) := by decide +kernel
theorem dX2_canMove_48 : decode cX2_canMove 48 = .ok (.iconst 1, 1) := by decide +kernel
theorem dX2_canMove_49 : decode cX2_canMove 49 = .ok (.goto 4, 3) := by decide +kernel
theorem dX2_canMove_52 : decode cX2_canMove 52 = .ok (.iconst 0, 1) := by decide +kernel
theorem dX2_canMove_53 : decode cX2_canMove 53 = .ok (.invokestatic 17, 3) := by decide +kernel
theorem dX2_canMove_56 : decode cX2_canMove 56 = .ok (.ireturn, 1) := by decide +kernel
set_option maxRecDepth 20000 in
theorem ggX2_canBeTaken_X4_isShared : GoodIn wsX2_canBeTaken wsX4_isShared := goodIn_r _ [4] (by decide +kernel) (by decide +kernel)
set_option maxRecDepth 20000 in
theorem gX2_canBeTaken_X4_isShared : GoodIn wsX2_canBeTaken (va_wsS RX2 21 yX4_isShared wsX4_isShared) := goodIn_app (goodIn_of _ (by decide +kernel)) ggX2_canBeTaken_X4_isShared
set_option maxRecDepth 20000 in
theorem ggX2_canBeTaken_X2_countAt : GoodIn wsX2_canBeTaken wsX2_countAt := goodIn_r _ [8] (by decide +kernel) (by decide +kernel)
set_option maxRecDepth 20000 in
theorem gX2_canBeTaken_X2_countAt : GoodIn wsX2_canBeTaken (va_wsS RX2 13 yX2_countAt wsX2_countAt) := goodIn_app (goodIn_of _ (by decide +kernel)) ggX2_canBeTaken_X2_countAt
theorem dX2_canBeTaken_0 : decode cX2_canBeTaken 0 = .ok (.iload_n 2, 1) := by decide +kernel
theorem dX2_canBeTaken_1 : decode cX2_canBeTaken 1 = .ok (.invokestatic 21, 3) := by decide +kernel
theorem dX2_canBeTaken_4 : decode cX2_canBeTaken 4 = .ok (.ifCond .eq 15, 3) := by decide +kernel
theorem dX2_canBeTaken_7 : decode cX2_canBeTaken 7 = .ok (.lload_n 0, 1) := by decide +kernel
theorem dX2_canBeTaken_8 : decode cX2_canBeTaken 8 = .ok (.iload_n 2, 1) := by decide +kernel
theorem dX2_canBeTaken_9 : decode cX2_canBeTaken 9 = .ok (.invokestatic 13, 3) := by decide +kernel
theorem dX2_canBeTaken_12 : decode cX2_canBeTaken 12 = .ok (.ifCond .le 7, 3) := by decide +kernel
theorem dX2_canBeTaken_15 : decode cX2_canBeTaken 15 = .ok (.iconst 1, 1) := by decide +kernel
theorem dX2_canBeTaken_16 : decode cX2_canBeTaken 16 = .ok (.goto 4, 3) := by decide +kernel
theorem dX2_canBeTaken_19 : decode cX2_canBeTaken 19 = .ok (.iconst 0, 1) := by decide +kernel
theorem dX2_canBeTaken_20 : decode cX2_canBeTaken 20 = .ok (.ireturn, 1) := by decide +kernel
theorem dX3_init_0 : decode cX3_init 0 = .ok (.aload_n 0, 1) := by decide +kernel
theorem dX3_init_1 : decode cX3_init 1 = .ok (.invokespecial 1, 3) := by decide +kernel
theorem dX3_init_4 : decode cX3_init 4 = .ok (.return_, 1) := by decide +kernel
theorem dX4_isRosette_0 : decode cX4_isRosette 0 = .ok (.iload_n 0, 1) := by decide +kernel
theorem dX4_isRosette_1 : decode cX4_isRosette 1 = .ok (.iconst 4, 1) := by decide +kernel
theorem dX4_isRosette_2 : decode cX4_isRosette 2 = .ok (.if_icmp .eq 15, 3) := by decide +kernel
theorem dX4_isRosette_5 : decode cX4_isRosette 5 = .ok (.iload_n 0, 1) := by decide +kernel
theorem dX4_isRosette_6 : decode cX4_isRosette 6 = .ok (.bipush 8, 2) := by decide +kernel
theorem dX4_isRosette_8 : decode cX4_isRosette 8 = .ok (.if_icmp .eq 9, 3) := by decide +kernel
theorem dX4_isRosette_11 : decode cX4_isRosette 11 = .ok (.iload_n 0, 1) := by decide +kernel
theorem dX4_isRosette_12 : decode cX4_isRosette 12 = .ok (.bipush 14, 2) := by decide +kernel
theorem dX4_isRosette_14 : decode cX4_isRosette 14 = .ok (.if_icmp .ne 7, 3) := by decide +kernel
theorem dX4_isRosette_17 : decode cX4_isRosette 17 = .ok (.iconst 1, 1) := by decide +kernel
theorem dX4_isRosette_18 : decode cX4_isRosette 18 = .ok (.goto 4, 3) := by decide +kernel
theorem dX4_isRosette_21 : decode cX4_isRosette 21 = .ok (.iconst 0, 1) := by decide +kernel
theorem dX4_isRosette_22 : decode cX4_isRosette 22 = .ok (.ireturn, 1) := by decide +kernel
theorem dX4_isShared_0 : decode cX4_isShared 0 = .ok (.iload_n 0, 1) := by decide +kernel
theorem dX4_isShared_1 : decode cX4_isShared 1 = .ok (.iconst 5, 1) := by decide +kernel
theorem dX4_isShared_2 : decode cX4_isShared 2 = .ok (.if_icmp .lt 13, 3) := by decide +kernel
theorem dX4_isShared_5 : decode cX4_isShared 5 = .ok (.iload_n 0, 1) := by decide +kernel
theorem dX4_isShared_6 : decode cX4_isShared 6 = .ok (.bipush 12, 2) := by decide +kernel
theorem dX4_isShared_8 : decode cX4_isShared 8 = .ok (.if_icmp .gt 7, 3) := by decide +kernel
theorem dX4_isShared_11 : decode cX4_isShared 11 = .ok (.iconst 1, 1) := by decide +kernel
theorem dX4_isShared_12 : decode cX4_isShared 12 = .ok (.goto 4, 3) := by decide +kernel
theorem dX4_isShared_15 : decode cX4_isShared 15 = .ok (.iconst 0, 1) := by decide +kernel
theorem dX4_isShared_16 : decode cX4_isShared 16 = .ok (.ireturn, 1) := by decide +kernel
theorem dX4_canEnter_0 : decode cX4_canEnter 0 = .ok (.iload_n 0, 1) := by decide +kernel
theorem dX4_canEnter_1 : decode cX4_canEnter 1 = .ok (.bipush 15, 2) := by decide +kernel
theorem dX4_canEnter_3 : decode cX4_canEnter 3 = .ok (.if_icmp .lt 15, 3) := by decide +kernel
theorem dX4_canEnter_6 : decode cX4_canEnter 6 = .ok (.iload_n 0, 1) := by decide +kernel
theorem dX4_canEnter_7 : decode cX4_canEnter 7 = .ok (.bipush 15, 2) := by decide +kernel
theorem dX4_canEnter_9 : decode cX4_canEnter 9 = .ok (.if_icmp .ne 7, 3) := by decide +kernel
theorem dX4_canEnter_12 : decode cX4_canEnter 12 = .ok (.iconst 1, 1) := by decide +kernel
theorem dX4_canEnter_13 : decode cX4_canEnter 13 = .ok (.goto 4, 3) := by decide +kernel
theorem dX4_canEnter_16 : decode cX4_canEnter 16 = .ok (.iconst 0, 1) := by decide +kernel
theorem dX4_canEnter_17 : decode cX4_canEnter 17 = .ok (.ireturn, 1) := by decide +kernel
theorem dX4_canEnter_18 : decode cX4_canEnter 18 = .ok (.iload_n 1, 1) := by decide +kernel
theorem dX4_canEnter_19 : decode cX4_canEnter 19 = .ok (.ifCond .ne 17, 3) := by decide +kernel
theorem dX4_canEnter_22 : decode cX4_canEnter 22 = .ok (.iload_n 2, 1) := by decide +kernel
theorem dX4_canEnter_23 : decode cX4_canEnter 23 = .ok (.ifCond .eq 9, 3) := by decide +kernel
theorem dX4_canEnter_26 : decode cX4_canEnter 26 = .ok (.iload_n 0, 1) := by decide +kernel
theorem dX4_canEnter_27 : decode cX4_canEnter 27 = .ok (.bipush 8, 2) := by decide +kernel
theorem dX4_canEnter_29 : decode cX4_canEnter 29 = .ok (.if_icmp .eq 7, 3) := by decide +kernel
theorem dX4_canEnter_32 : decode cX4_canEnter 32 = .ok (.iconst 1, 1) := by decide +kernel
theorem dX4_canEnter_33 : decode cX4_canEnter 33 = .ok (.goto 4, 3) := by decide +kernel
theorem dX4_canEnter_36 : decode cX4_canEnter 36 = .ok (.iconst 0, 1) := by decide +kernel
theorem dX4_canEnter_37 : decode cX4_canEnter 37 = .ok (.ireturn, 1) := by decide +kernel
set_option maxRecDepth 20000 in
theorem ggX5_init_X3_init : GoodIn wsX5_init wsX3_init := goodIn_r _ [16, 17, 2, 3] (by decide +kernel) (by decide +kernel)
set_option maxRecDepth 20000 in
theorem gX5_init_X3_init_n9 : GoodIn wsX5_init (wsX3_init) := ggX5_init_X3_init
set_option maxRecDepth 20000 in
theorem ggX5_init_X1_init : GoodIn wsX5_init wsX1_init := goodIn_r _ [20, 21, 2, 3, 13, 22, 50, 51] (by decide +kernel) (by decide +kernel)
set_option maxRecDepth 20000 in
theorem gX5_init_X1_init : GoodIn wsX5_init (wsX1_init) := ggX5_init_X1_init
set_option maxRecDepth 20000 in
theorem ggX5_init_X5_setUp : GoodIn wsX5_init wsX5_setUp := goodIn_r _ [27, 28, 7, 29, 8, 30, 31, 32, 33, 34, 35, 36, 37, 38, 41, 42, 43, 44, 45, 46, 47, 48, 49, 39, 40] (by decide +kernel) (by decide +kernel)
set_option maxRecDepth 20000 in
theorem gX5_init_X5_setUp : GoodIn wsX5_init (wsV RX5 32 RX5 yX5_setUp wsX5_setUp) := goodIn_app (goodIn_of _ (by decide +kernel)) ggX5_init_X5_setUp
theorem dX5_init_0 : decode cX5_init 0 = .ok (.aload_n 0, 1) := by decide +kernel
theorem dX5_init_1 : decode cX5_init 1 = .ok (.invokespecial 1, 3) := by decide +kernel
theorem dX5_init_4 : decode cX5_init 4 = .ok (.aload_n 0, 1) := by decide +kernel
theorem dX5_init_5 : decode cX5_init 5 = .ok (.new 7, 3) := by decide +kernel
theorem dX5_init_8 : decode cX5_init 8 = .ok (.dup, 1) := by decide +kernel
theorem dX5_init_9 : decode cX5_init 9 = .ok (.invokespecial 9, 3) := by decide +kernel
theorem dX5_init_12 : decode cX5_init 12 = .ok (.putfield 10, 3) := by decide +kernel
theorem dX5_init_15 : decode cX5_init 15 = .ok (.aload_n 0, 1) := by decide +kernel
theorem dX5_init_16 : decode cX5_init 16 = .ok (.new 7, 3) := by decide +kernel
theorem dX5_init_19 : decode cX5_init 19 = .ok (.dup, 1) := by decide +kernel
theorem dX5_init_20 : decode cX5_init 20 = .ok (.invokespecial 9, 3) := by decide +kernel
theorem dX5_init_23 : decode cX5_init 23 = .ok (.putfield 16, 3) := by decide +kernel
theorem dX5_init_26 : decode cX5_init 26 = .ok (.aload_n 0, 1) := by decide +kernel
theorem dX5_init_27 : decode cX5_init 27 = .ok (.new 19, 3) := by decide +kernel
theorem dX5_init_30 : decode cX5_init 30 = .ok (.dup, 1) := by decide +kernel
theorem dX5_init_31 : decode cX5_init 31 = .ok (.invokespecial 21, 3) := by decide +kernel
theorem dX5_init_34 : decode cX5_init 34 = .ok (.putfield 22, 3) := by decide +kernel
theorem dX5_init_37 : decode cX5_init 37 = .ok (.aload_n 0, 1) := by decide +kernel
theorem dX5_init_38 : decode cX5_init 38 = .ok (.bipush 15, 2) := by decide +kernel
theorem dX5_init_40 : decode cX5_init 40 = .ok (.newarray .int, 2) := by decide +kernel
theorem dX5_init_42 : decode cX5_init 42 = .ok (.putfield 28, 3) := by decide +kernel
theorem dX5_init_45 : decode cX5_init 45 = .ok (.aload_n 0, 1) := by decide +kernel
theorem dX5_init_46 : decode cX5_init 46 = .ok (.iconst 2, 1) := by decide +kernel
theorem dX5_init_47 : decode cX5_init 47 = .ok (.invokevirtual 32, 3) := by decide +kernel
theorem dX5_init_50 : decode cX5_init 50 = .ok (.return_, 1) := by decide +kernel
set_option maxRecDepth 20000 in
theorem ggX5_begin_X5_refuseOutside : GoodIn wsX5_begin wsX5_refuseOutside := goodIn_ca (goodIn_r _ [4, 5, 6] (by decide +kernel) (by decide +kernel)) (goodIn_sub (fun _ h => List.mem_cons_of_mem _ (List.mem_append_right _ h)) (by decide +kernel))
set_option maxRecDepth 20000 in
theorem gX5_begin_X5_refuseOutside : GoodIn wsX5_begin (va_wsS RX5 36 yX5_refuseOutside wsX5_refuseOutside) := goodIn_app (goodIn_of _ (by decide +kernel)) ggX5_begin_X5_refuseOutside
set_option maxRecDepth 20000 in
theorem ggX5_begin_X5_setUp : GoodIn wsX5_begin wsX5_setUp := goodIn_r _ [10, 11, 12, 13, 14, 15, 16, 17, 18, 19, 20, 21, 22, 23, 24, 25, 26, 27, 28, 29, 30, 31, 32, 33, 34] (by decide +kernel) (by decide +kernel)
set_option maxRecDepth 20000 in
theorem gX5_begin_X5_setUp : GoodIn wsX5_begin (wsV RX5 32 RX5 yX5_setUp wsX5_setUp) := goodIn_app (goodIn_of _ (by decide +kernel)) ggX5_begin_X5_setUp
theorem dX5_begin_0 : decode cX5_begin 0 = .ok (.iload_n 1, 1) := by decide +kernel
theorem dX5_begin_1 : decode cX5_begin 1 = .ok (.iconst 1, 1) := by decide +kernel
theorem dX5_begin_2 : decode cX5_begin 2 = .ok (.iconst 4, 1) := by decide +kernel
theorem dX5_begin_3 : decode cX5_begin 3 = .ok (.invokestatic 36, 3) := by decide +kernel
theorem dX5_begin_6 : decode cX5_begin 6 = .ok (.aload_n 0, 1) := by decide +kernel
theorem dX5_begin_7 : decode cX5_begin 7 = .ok (.iload_n 1, 1) := by decide +kernel
theorem dX5_begin_8 : decode cX5_begin 8 = .ok (.invokevirtual 32, 3) := by decide +kernel
theorem dX5_begin_11 : decode cX5_begin 11 = .ok (.return_, 1) := by decide +kernel
set_option maxRecDepth 20000 in
theorem ggX5_tell_X5_refuseOutside : GoodIn wsX5_tell wsX5_refuseOutside := goodIn_ca (goodIn_r _ [10, 11, 12] (by decide +kernel) (by decide +kernel)) (goodIn_sub (fun _ h => List.mem_cons_of_mem _ (List.mem_append_right _ h)) (by decide +kernel))
set_option maxRecDepth 20000 in
theorem gX5_tell_X5_refuseOutside : GoodIn wsX5_tell (va_wsS RX5 36 yX5_refuseOutside wsX5_refuseOutside) := goodIn_app (goodIn_of _ (by decide +kernel)) ggX5_tell_X5_refuseOutside
set_option maxRecDepth 20000 in
theorem ggX5_tell_X5_countMoves : GoodIn wsX5_tell wsX5_countMoves := goodIn_r _ [16, 6, 17, 18, 19, 20, 9, 21, 22, 23, 24, 25, 26, 27, 28, 29, 30, 31, 32, 33, 34, 35, 36, 37, 38, 39, 40, 41, 42, 43, 44, 45] (by decide +kernel) (by decide +kernel)
set_option maxRecDepth 20000 in
theorem gX5_tell_X5_countMoves : GoodIn wsX5_tell (wsV RX5 55 RX5 yX5_countMoves wsX5_countMoves) := goodIn_app (goodIn_of _ (by decide +kernel)) ggX5_tell_X5_countMoves
theorem dX5_tell_0 : decode cX5_tell 0 = .ok (.iload_n 1, 1) := by decide +kernel
theorem dX5_tell_1 : decode cX5_tell 1 = .ok (.iconst 0, 1) := by decide +kernel
theorem dX5_tell_2 : decode cX5_tell 2 = .ok (.iconst 4, 1) := by decide +kernel
theorem dX5_tell_3 : decode cX5_tell 3 = .ok (.invokestatic 36, 3) := by decide +kernel
theorem dX5_tell_6 : decode cX5_tell 6 = .ok (.aload_n 0, 1) := by decide +kernel
theorem dX5_tell_7 : decode cX5_tell 7 = .ok (.getfield 42, 3) := by decide +kernel
theorem dX5_tell_10 : decode cX5_tell 10 = .ok (.iconst (-1), 1) := by decide +kernel
theorem dX5_tell_11 : decode cX5_tell 11 = .ok (.if_icmp .ne 11, 3) := by decide +kernel
theorem dX5_tell_14 : decode cX5_tell 14 = .ok (.aload_n 0, 1) := by decide +kernel
theorem dX5_tell_15 : decode cX5_tell 15 = .ok (.getfield 46, 3) := by decide +kernel
theorem dX5_tell_18 : decode cX5_tell 18 = .ok (.iconst (-1), 1) := by decide +kernel
theorem dX5_tell_19 : decode cX5_tell 19 = .ok (.if_icmp .eq 11, 3) := by decide +kernel
theorem dX5_tell_22 : decode cX5_tell 22 = .ok (.new 49, 3) := by decide +kernel
theorem dX5_tell_25 : decode cX5_tell 25 = .ok (.dup, 1) := by decide +kernel
theorem dX5_tell_26 : decode cX5_tell 26 = .ok (.invokespecial 51, 3) := by decide +kernel
theorem dX5_tell_29 : decode cX5_tell 29 = .ok (.athrow, 1) := by decide +kernel
theorem dX5_tell_30 : decode cX5_tell 30 = .ok (.aload_n 0, 1) := by decide +kernel
theorem dX5_tell_31 : decode cX5_tell 31 = .ok (.dup, 1) := by decide +kernel
theorem dX5_tell_32 : decode cX5_tell 32 = .ok (.getfield 52, 3) := by decide +kernel
theorem dX5_tell_35 : decode cX5_tell 35 = .ok (.iconst 1, 1) := by decide +kernel
theorem dX5_tell_36 : decode cX5_tell 36 = .ok (.iadd, 1) := by decide +kernel
theorem dX5_tell_37 : decode cX5_tell 37 = .ok (.putfield 52, 3) := by decide +kernel
theorem dX5_tell_40 : decode cX5_tell 40 = .ok (.aload_n 0, 1) := by decide +kernel
theorem dX5_tell_41 : decode cX5_tell 41 = .ok (.iload_n 1, 1) := by decide +kernel
theorem dX5_tell_42 : decode cX5_tell 42 = .ok (.invokevirtual 55, 3) := by decide +kernel
theorem dX5_tell_45 : decode cX5_tell 45 = .ok (.istore_n 2, 1) := by decide +kernel
theorem dX5_tell_46 : decode cX5_tell 46 = .ok (.iload_n 2, 1) := by decide +kernel
theorem dX5_tell_47 : decode cX5_tell 47 = .ok (.ifCond .ne 16, 3) := by decide +kernel
theorem dX5_tell_50 : decode cX5_tell 50 = .ok (.aload_n 0, 1) := by decide +kernel
theorem dX5_tell_51 : decode cX5_tell 51 = .ok (.iconst 1, 1) := by decide +kernel
theorem dX5_tell_52 : decode cX5_tell 52 = .ok (.aload_n 0, 1) := by decide +kernel
theorem dX5_tell_53 : decode cX5_tell 53 = .ok (.getfield 59, 3) := by decide +kernel
theorem dX5_tell_56 : decode cX5_tell 56 = .ok (.isub, 1) := by decide +kernel
theorem dX5_tell_57 : decode cX5_tell 57 = .ok (.putfield 59, 3) := by decide +kernel
theorem dX5_tell_60 : decode cX5_tell 60 = .ok (.goto 8, 3) := by decide +kernel
theorem dX5_tell_63 : decode cX5_tell 63 = .ok (.aload_n 0, 1) := by decide +kernel
theorem dX5_tell_64 : decode cX5_tell 64 = .ok (.iload_n 1, 1) := by decide +kernel
theorem dX5_tell_65 : decode cX5_tell 65 = .ok (.putfield 46, 3) := by decide +kernel
theorem dX5_tell_68 : decode cX5_tell 68 = .ok (.iload_n 2, 1) := by decide +kernel
theorem dX5_tell_69 : decode cX5_tell 69 = .ok (.ireturn, 1) := by decide +kernel
set_option maxRecDepth 20000 in
theorem ggX5_move_X5_refuseOutside : GoodIn wsX5_move wsX5_refuseOutside := goodIn_ca (goodIn_r _ [11, 12, 13] (by decide +kernel) (by decide +kernel)) (goodIn_sub (fun _ h => List.mem_cons_of_mem _ (List.mem_append_right _ h)) (by decide +kernel))
set_option maxRecDepth 20000 in
theorem gX5_move_X5_refuseOutside : GoodIn wsX5_move (va_wsS RX5 36 yX5_refuseOutside wsX5_refuseOutside) := goodIn_app (goodIn_of _ (by decide +kernel)) ggX5_move_X5_refuseOutside
set_option maxRecDepth 20000 in
theorem ggX5_move_X5_canMoveFrom : GoodIn wsX5_move wsX5_canMoveFrom := goodIn_r _ [17, 4, 5, 3, 18, 19, 20, 10, 21, 22, 23, 24, 25, 26, 27, 28, 29, 30, 31, 32, 33, 34, 51, 52, 53, 54, 55, 56, 57, 58, 59, 60, 61] (by decide +kernel) (by decide +kernel)
set_option maxRecDepth 20000 in
theorem gX5_move_X5_canMoveFrom : GoodIn wsX5_move (wsV RX5 62 RX5 yX5_canMoveFrom wsX5_canMoveFrom) := goodIn_app (goodIn_of _ (by decide +kernel)) ggX5_move_X5_canMoveFrom
set_option maxRecDepth 20000 in
theorem ggX5_move_X5_sideOf : GoodIn wsX5_move wsX5_sideOf := goodIn_r _ [21, 22, 23, 51, 52, 53, 54, 55, 56, 57, 58, 59] (by decide +kernel) (by decide +kernel)
set_option maxRecDepth 20000 in
theorem gX5_move_X5_sideOf : GoodIn wsX5_move (wsV RX5 66 RX5 yX5_sideOf wsX5_sideOf) := goodIn_app (goodIn_of _ (by decide +kernel)) ggX5_move_X5_sideOf
set_option maxRecDepth 20000 in
theorem ggX5_move_X2_shifted : GoodIn wsX5_move wsX2_shifted := goodIn_r _ [37] (by decide +kernel) (by decide +kernel)
set_option maxRecDepth 20000 in
theorem gX5_move_X2_shifted : GoodIn wsX5_move (va_wsS RX5 74 yX2_shifted wsX2_shifted) := goodIn_app (goodIn_of _ (by decide +kernel)) ggX5_move_X2_shifted
set_option maxRecDepth 20000 in
theorem ggX5_move_X2_canBeTaken : GoodIn wsX5_move wsX2_canBeTaken := goodIn_r _ [40, 41, 42, 33, 43, 28, 29, 26, 30] (by decide +kernel) (by decide +kernel)
set_option maxRecDepth 20000 in
theorem gX5_move_X2_canBeTaken : GoodIn wsX5_move (va_wsS RX5 80 yX2_canBeTaken wsX2_canBeTaken) := goodIn_app (goodIn_of _ (by decide +kernel)) ggX5_move_X2_canBeTaken
set_option maxRecDepth 20000 in
theorem ggX5_move_X2_isAllHome : GoodIn wsX5_move wsX2_isAllHome := goodIn_r _ [46, 47] (by decide +kernel) (by decide +kernel)
set_option maxRecDepth 20000 in
theorem gX5_move_X2_isAllHome : GoodIn wsX5_move (va_wsS RX5 87 yX2_isAllHome wsX2_isAllHome) := goodIn_app (goodIn_of _ (by decide +kernel)) ggX5_move_X2_isAllHome
set_option maxRecDepth 20000 in
theorem ggX5_move_X4_isRosette : GoodIn wsX5_move wsX4_isRosette := goodIn_r _ [50] (by decide +kernel) (by decide +kernel)
set_option maxRecDepth 20000 in
theorem gX5_move_X4_isRosette : GoodIn wsX5_move (va_wsS RX5 91 yX4_isRosette wsX4_isRosette) := goodIn_app (goodIn_of _ (by decide +kernel)) ggX5_move_X4_isRosette
theorem dX5_move_0 : decode cX5_move 0 = .ok (.iload_n 1, 1) := by decide +kernel
theorem dX5_move_1 : decode cX5_move 1 = .ok (.iconst 0, 1) := by decide +kernel
theorem dX5_move_2 : decode cX5_move 2 = .ok (.bipush 14, 2) := by decide +kernel
theorem dX5_move_4 : decode cX5_move 4 = .ok (.invokestatic 36, 3) := by decide +kernel
theorem dX5_move_7 : decode cX5_move 7 = .ok (.aload_n 0, 1) := by decide +kernel
theorem dX5_move_8 : decode cX5_move 8 = .ok (.iload_n 1, 1) := by decide +kernel
theorem dX5_move_9 : decode cX5_move 9 = .ok (.invokevirtual 62, 3) := by decide +kernel
theorem dX5_move_12 : decode cX5_move 12 = .ok (.ifCond .ne 11, 3) := by decide +kernel
theorem dX5_move_15 : decode cX5_move 15 = .ok (.new 49, 3) := by decide +kernel
theorem dX5_move_18 : decode cX5_move 18 = .ok (.dup, 1) := by decide +kernel
theorem dX5_move_19 : decode cX5_move 19 = .ok (.invokespecial 51, 3) := by decide +kernel
theorem dX5_move_22 : decode cX5_move 22 = .ok (.athrow, 1) := by decide +kernel
theorem dX5_move_23 : decode cX5_move 23 = .ok (.iload_n 1, 1) := by decide +kernel
theorem dX5_move_24 : decode cX5_move 24 = .ok (.aload_n 0, 1) := by decide +kernel
theorem dX5_move_25 : decode cX5_move 25 = .ok (.getfield 46, 3) := by decide +kernel
theorem dX5_move_28 : decode cX5_move 28 = .ok (.iadd, 1) := by decide +kernel
theorem dX5_move_29 : decode cX5_move 29 = .ok (.istore_n 2, 1) := by decide +kernel
theorem dX5_move_30 : decode cX5_move 30 = .ok (.aload_n 0, 1) := by decide +kernel
theorem dX5_move_31 : decode cX5_move 31 = .ok (.aload_n 0, 1) := by decide +kernel
theorem dX5_move_32 : decode cX5_move 32 = .ok (.getfield 59, 3) := by decide +kernel
theorem dX5_move_35 : decode cX5_move 35 = .ok (.invokevirtual 66, 3) := by decide +kernel
theorem dX5_move_38 : decode cX5_move 38 = .ok (.astore_n 3, 1) := by decide +kernel
theorem dX5_move_39 : decode cX5_move 39 = .ok (.aload_n 0, 1) := by decide +kernel
theorem dX5_move_40 : decode cX5_move 40 = .ok (.iconst 1, 1) := by decide +kernel
theorem dX5_move_41 : decode cX5_move 41 = .ok (.aload_n 0, 1) := by decide +kernel
theorem dX5_move_42 : decode cX5_move 42 = .ok (.getfield 59, 3) := by decide +kernel
theorem dX5_move_45 : decode cX5_move 45 = .ok (.isub, 1) := by decide +kernel
theorem dX5_move_46 : decode cX5_move 46 = .ok (.invokevirtual 66, 3) := by decide +kernel
theorem dX5_move_49 : decode cX5_move 49 = .ok (.astore 4, 2) := by decide +kernel
theorem dX5_move_51 : decode cX5_move 51 = .ok (.aload_n 3, 1) := by decide +kernel
theorem dX5_move_52 : decode cX5_move 52 = .ok (.aload_n 3, 1) := by decide +kernel
theorem dX5_move_53 : decode cX5_move 53 = .ok (.getfield 70, 3) := by decide +kernel
theorem dX5_move_56 : decode cX5_move 56 = .ok (.iload_n 1, 1) := by decide +kernel
theorem dX5_move_57 : decode cX5_move 57 = .ok (.iload_n 2, 1) := by decide +kernel
theorem dX5_move_58 : decode cX5_move 58 = .ok (.invokestatic 74, 3) := by decide +kernel
theorem dX5_move_61 : decode cX5_move 61 = .ok (.putfield 70, 3) := by decide +kernel
theorem dX5_move_64 : decode cX5_move 64 = .ok (.aload 4, 2) := by decide +kernel
theorem dX5_move_66 : decode cX5_move 66 = .ok (.getfield 70, 3) := by decide +kernel
theorem dX5_move_69 : decode cX5_move 69 = .ok (.iload_n 2, 1) := by decide +kernel
theorem dX5_move_70 : decode cX5_move 70 = .ok (.invokestatic 80, 3) := by decide +kernel
theorem dX5_move_73 : decode cX5_move 73 = .ok (.ifCond .eq 29, 3) := by decide +kernel
theorem dX5_move_76 : decode cX5_move 76 = .ok (.aload 4, 2) := by decide +kernel
theorem dX5_move_78 : decode cX5_move 78 = .ok (.aload 4, 2) := by decide +kernel
theorem dX5_move_80 : decode cX5_move 80 = .ok (.getfield 70, 3) := by decide +kernel
theorem dX5_move_83 : decode cX5_move 83 = .ok (.iload_n 2, 1) := by decide +kernel
theorem dX5_move_84 : decode cX5_move 84 = .ok (.iconst 0, 1) := by decide +kernel
theorem dX5_move_85 : decode cX5_move 85 = .ok (.invokestatic 74, 3) := by decide +kernel
theorem dX5_move_88 : decode cX5_move 88 = .ok (.putfield 70, 3) := by decide +kernel
theorem dX5_move_91 : decode cX5_move 91 = .ok (.aload 4, 2) := by decide +kernel
theorem dX5_move_93 : decode cX5_move 93 = .ok (.dup, 1) := by decide +kernel
theorem dX5_move_94 : decode cX5_move 94 = .ok (.getfield 84, 3) := by decide +kernel
theorem dX5_move_97 : decode cX5_move 97 = .ok (.iconst 1, 1) := by decide +kernel
theorem dX5_move_98 : decode cX5_move 98 = .ok (.iadd, 1) := by decide +kernel
theorem dX5_move_99 : decode cX5_move 99 = .ok (.putfield 84, 3) := by decide +kernel
theorem dX5_move_102 : decode cX5_move 102 = .ok (.aload_n 3, 1) := by decide +kernel
theorem dX5_move_103 : decode cX5_move 103 = .ok (.getfield 70, 3) := by decide +kernel
theorem dX5_move_106 : decode cX5_move 106 = .ok (.invokestatic 87, 3) := by decide +kernel
theorem dX5_move_109 : decode cX5_move 109 = .ok (.ifCond .eq 11, 3) := by decide +kernel
theorem dX5_move_112 : decode cX5_move 112 = .ok (.aload_n 0, 1) := by decide +kernel
theorem dX5_move_113 : decode cX5_move 113 = .ok (.aload_n 0, 1) := by decide +kernel
theorem dX5_move_114 : decode cX5_move 114 = .ok (.getfield 59, 3) := by decide +kernel
theorem dX5_move_117 : decode cX5_move 117 = .ok (.putfield 42, 3) := by decide +kernel
theorem dX5_move_120 : decode cX5_move 120 = .ok (.iload_n 2, 1) := by decide +kernel
theorem dX5_move_121 : decode cX5_move 121 = .ok (.invokestatic 91, 3) := by decide +kernel
theorem dX5_move_124 : decode cX5_move 124 = .ok (.ifCond .ne 13, 3) := by decide +kernel
theorem dX5_move_127 : decode cX5_move 127 = .ok (.aload_n 0, 1) := by decide +kernel
theorem dX5_move_128 : decode cX5_move 128 = .ok (.iconst 1, 1) := by decide +kernel
theorem dX5_move_129 : decode cX5_move 129 = .ok (.aload_n 0, 1) := by decide +kernel
theorem dX5_move_130 : decode cX5_move 130 = .ok (.getfield 59, 3) := by decide +kernel
theorem dX5_move_133 : decode cX5_move 133 = .ok (.isub, 1) := by decide +kernel
theorem dX5_move_134 : decode cX5_move 134 = .ok (.putfield 59, 3) := by decide +kernel
theorem dX5_move_137 : decode cX5_move 137 = .ok (.aload_n 0, 1) := by decide +kernel
theorem dX5_move_138 : decode cX5_move 138 = .ok (.iconst (-1), 1) := by decide +kernel
theorem dX5_move_139 : decode cX5_move 139 = .ok (.putfield 46, 3) := by decide +kernel
theorem dX5_move_142 : decode cX5_move 142 = .ok (.iload_n 2, 1) := by decide +kernel
theorem dX5_move_143 : decode cX5_move 143 = .ok (.ireturn, 1) := by decide +kernel
theorem dX5_turn_0 : decode cX5_turn 0 = .ok (.aload_n 0, 1) := by decide +kernel
theorem dX5_turn_1 : decode cX5_turn 1 = .ok (.getfield 59, 3) := by decide +kernel
theorem dX5_turn_4 : decode cX5_turn 4 = .ok (.ireturn, 1) := by decide +kernel
theorem dX5_marks_0 : decode cX5_marks 0 = .ok (.aload_n 0, 1) := by decide +kernel
theorem dX5_marks_1 : decode cX5_marks 1 = .ok (.getfield 46, 3) := by decide +kernel
theorem dX5_marks_4 : decode cX5_marks 4 = .ok (.ireturn, 1) := by decide +kernel
theorem dX5_winner_0 : decode cX5_winner 0 = .ok (.aload_n 0, 1) := by decide +kernel
theorem dX5_winner_1 : decode cX5_winner 1 = .ok (.getfield 42, 3) := by decide +kernel
theorem dX5_winner_4 : decode cX5_winner 4 = .ok (.ireturn, 1) := by decide +kernel
set_option maxRecDepth 20000 in
theorem ggX5_at_X5_refuseOutside : GoodIn wsX5_at wsX5_refuseOutside := goodIn_ca (goodIn_r _ [5, 6, 7] (by decide +kernel) (by decide +kernel)) (goodIn_sub (fun _ h => List.mem_cons_of_mem _ (List.mem_append_right _ h)) (by decide +kernel))
set_option maxRecDepth 20000 in
theorem gX5_at_X5_refuseOutside : GoodIn wsX5_at (va_wsS RX5 36 yX5_refuseOutside wsX5_refuseOutside) := goodIn_app (goodIn_of _ (by decide +kernel)) ggX5_at_X5_refuseOutside
set_option maxRecDepth 20000 in
theorem ggX5_at_X5_sideOf : GoodIn wsX5_at wsX5_sideOf := goodIn_r _ [11, 12, 13, 20, 21, 22, 23, 24, 25, 26, 27, 28] (by decide +kernel) (by decide +kernel)
set_option maxRecDepth 20000 in
theorem gX5_at_X5_sideOf : GoodIn wsX5_at (wsV RX5 66 RX5 yX5_sideOf wsX5_sideOf) := goodIn_app (goodIn_of _ (by decide +kernel)) ggX5_at_X5_sideOf
set_option maxRecDepth 20000 in
theorem ggX5_at_X2_countAt : GoodIn wsX5_at wsX2_countAt := goodIn_r _ [17] (by decide +kernel) (by decide +kernel)
set_option maxRecDepth 20000 in
theorem gX5_at_X2_countAt : GoodIn wsX5_at (va_wsS RX5 94 yX2_countAt wsX2_countAt) := goodIn_app (goodIn_of _ (by decide +kernel)) ggX5_at_X2_countAt
theorem dX5_at_0 : decode cX5_at 0 = .ok (.iload_n 1, 1) := by decide +kernel
theorem dX5_at_1 : decode cX5_at 1 = .ok (.iconst 0, 1) := by decide +kernel
theorem dX5_at_2 : decode cX5_at 2 = .ok (.iconst 1, 1) := by decide +kernel
theorem dX5_at_3 : decode cX5_at 3 = .ok (.invokestatic 36, 3) := by decide +kernel
theorem dX5_at_6 : decode cX5_at 6 = .ok (.iload_n 2, 1) := by decide +kernel
theorem dX5_at_7 : decode cX5_at 7 = .ok (.iconst 0, 1) := by decide +kernel
theorem dX5_at_8 : decode cX5_at 8 = .ok (.bipush 15, 2) := by decide +kernel
theorem dX5_at_10 : decode cX5_at 10 = .ok (.invokestatic 36, 3) := by decide +kernel
theorem dX5_at_13 : decode cX5_at 13 = .ok (.aload_n 0, 1) := by decide +kernel
theorem dX5_at_14 : decode cX5_at 14 = .ok (.iload_n 1, 1) := by decide +kernel
theorem dX5_at_15 : decode cX5_at 15 = .ok (.invokevirtual 66, 3) := by decide +kernel
theorem dX5_at_18 : decode cX5_at 18 = .ok (.getfield 70, 3) := by decide +kernel
theorem dX5_at_21 : decode cX5_at 21 = .ok (.iload_n 2, 1) := by decide +kernel
theorem dX5_at_22 : decode cX5_at 22 = .ok (.invokestatic 94, 3) := by decide +kernel
theorem dX5_at_25 : decode cX5_at 25 = .ok (.ireturn, 1) := by decide +kernel
set_option maxRecDepth 20000 in
theorem ggX5_progress_X5_refuseOutside : GoodIn wsX5_progress wsX5_refuseOutside := goodIn_ca (goodIn_r _ [5, 6, 7] (by decide +kernel) (by decide +kernel)) (goodIn_sub (fun _ h => List.mem_cons_of_mem _ (List.mem_append_right _ h)) (by decide +kernel))
set_option maxRecDepth 20000 in
theorem gX5_progress_X5_refuseOutside : GoodIn wsX5_progress (va_wsS RX5 36 yX5_refuseOutside wsX5_refuseOutside) := goodIn_app (goodIn_of _ (by decide +kernel)) ggX5_progress_X5_refuseOutside
set_option maxRecDepth 20000 in
theorem ggX5_progress_X5_sideOf : GoodIn wsX5_progress wsX5_sideOf := goodIn_r _ [11, 12, 13, 23, 24, 25, 26, 27, 28, 29, 30, 31] (by decide +kernel) (by decide +kernel)
set_option maxRecDepth 20000 in
theorem gX5_progress_X5_sideOf : GoodIn wsX5_progress (wsV RX5 66 RX5 yX5_sideOf wsX5_sideOf) := goodIn_app (goodIn_of _ (by decide +kernel)) ggX5_progress_X5_sideOf
set_option maxRecDepth 20000 in
theorem ggX5_progress_X2_sumOfPlaces : GoodIn wsX5_progress wsX2_sumOfPlaces := goodIn_r _ [17, 18, 19, 16, 20] (by decide +kernel) (by decide +kernel)
set_option maxRecDepth 20000 in
theorem gX5_progress_X2_sumOfPlaces : GoodIn wsX5_progress (va_wsS RX5 98 yX2_sumOfPlaces wsX2_sumOfPlaces) := goodIn_app (goodIn_of _ (by decide +kernel)) ggX5_progress_X2_sumOfPlaces
theorem dX5_progress_0 : decode cX5_progress 0 = .ok (.iload_n 1, 1) := by decide +kernel
theorem dX5_progress_1 : decode cX5_progress 1 = .ok (.iconst 0, 1) := by decide +kernel
theorem dX5_progress_2 : decode cX5_progress 2 = .ok (.iconst 1, 1) := by decide +kernel
theorem dX5_progress_3 : decode cX5_progress 3 = .ok (.invokestatic 36, 3) := by decide +kernel
theorem dX5_progress_6 : decode cX5_progress 6 = .ok (.aload_n 0, 1) := by decide +kernel
theorem dX5_progress_7 : decode cX5_progress 7 = .ok (.iload_n 1, 1) := by decide +kernel
theorem dX5_progress_8 : decode cX5_progress 8 = .ok (.invokevirtual 66, 3) := by decide +kernel
theorem dX5_progress_11 : decode cX5_progress 11 = .ok (.getfield 70, 3) := by decide +kernel
theorem dX5_progress_14 : decode cX5_progress 14 = .ok (.invokestatic 98, 3) := by decide +kernel
theorem dX5_progress_17 : decode cX5_progress 17 = .ok (.ireturn, 1) := by decide +kernel
set_option maxRecDepth 20000 in
theorem ggX5_captured_X5_refuseOutside : GoodIn wsX5_captured wsX5_refuseOutside := goodIn_ca (goodIn_r _ [5, 6, 7] (by decide +kernel) (by decide +kernel)) (goodIn_sub (fun _ h => List.mem_cons_of_mem _ (List.mem_append_right _ h)) (by decide +kernel))
set_option maxRecDepth 20000 in
theorem gX5_captured_X5_refuseOutside : GoodIn wsX5_captured (va_wsS RX5 36 yX5_refuseOutside wsX5_refuseOutside) := goodIn_app (goodIn_of _ (by decide +kernel)) ggX5_captured_X5_refuseOutside
set_option maxRecDepth 20000 in
theorem ggX5_captured_X5_sideOf : GoodIn wsX5_captured wsX5_sideOf := goodIn_r _ [11, 12, 13, 16, 17, 18, 19, 20, 21, 22, 23, 24] (by decide +kernel) (by decide +kernel)
set_option maxRecDepth 20000 in
theorem gX5_captured_X5_sideOf : GoodIn wsX5_captured (wsV RX5 66 RX5 yX5_sideOf wsX5_sideOf) := goodIn_app (goodIn_of _ (by decide +kernel)) ggX5_captured_X5_sideOf
theorem dX5_captured_0 : decode cX5_captured 0 = .ok (.iload_n 1, 1) := by decide +kernel
theorem dX5_captured_1 : decode cX5_captured 1 = .ok (.iconst 0, 1) := by decide +kernel
theorem dX5_captured_2 : decode cX5_captured 2 = .ok (.iconst 1, 1) := by decide +kernel
theorem dX5_captured_3 : decode cX5_captured 3 = .ok (.invokestatic 36, 3) := by decide +kernel
theorem dX5_captured_6 : decode cX5_captured 6 = .ok (.aload_n 0, 1) := by decide +kernel
theorem dX5_captured_7 : decode cX5_captured 7 = .ok (.iload_n 1, 1) := by decide +kernel
theorem dX5_captured_8 : decode cX5_captured 8 = .ok (.invokevirtual 66, 3) := by decide +kernel
theorem dX5_captured_11 : decode cX5_captured 11 = .ok (.getfield 84, 3) := by decide +kernel
theorem dX5_captured_14 : decode cX5_captured 14 = .ok (.ireturn, 1) := by decide +kernel
theorem dX5_throwsTold_0 : decode cX5_throwsTold 0 = .ok (.aload_n 0, 1) := by decide +kernel
theorem dX5_throwsTold_1 : decode cX5_throwsTold 1 = .ok (.getfield 52, 3) := by decide +kernel
theorem dX5_throwsTold_4 : decode cX5_throwsTold 4 = .ok (.ireturn, 1) := by decide +kernel
set_option maxRecDepth 20000 in
theorem ggX5_moves_X5_countMoves : GoodIn wsX5_moves wsX5_countMoves := goodIn_r _ [6, 7, 8, 9, 10, 11, 5, 12, 13, 14, 15, 16, 17, 18, 19, 20, 21, 22, 23, 24, 25, 26, 27, 28, 29, 30, 31, 32, 33, 34, 35, 36] (by decide +kernel) (by decide +kernel)
set_option maxRecDepth 20000 in
theorem gX5_moves_X5_countMoves : GoodIn wsX5_moves (wsV RX5 55 RX5 yX5_countMoves wsX5_countMoves) := goodIn_app (goodIn_of _ (by decide +kernel)) ggX5_moves_X5_countMoves
theorem dX5_moves_0 : decode cX5_moves 0 = .ok (.aload_n 0, 1) := by decide +kernel
theorem dX5_moves_1 : decode cX5_moves 1 = .ok (.aload_n 0, 1) := by decide +kernel
theorem dX5_moves_2 : decode cX5_moves 2 = .ok (.getfield 46, 3) := by decide +kernel
theorem dX5_moves_5 : decode cX5_moves 5 = .ok (.invokevirtual 55, 3) := by decide +kernel
theorem dX5_moves_8 : decode cX5_moves 8 = .ok (.ireturn, 1) := by decide +kernel
set_option maxRecDepth 20000 in
theorem ggX5_moveAt_X5_canMoveFrom : GoodIn wsX5_moveAt wsX5_canMoveFrom := goodIn_r _ [5, 6, 7, 8, 9, 10, 11, 4, 12, 13, 14, 15, 16, 17, 18, 19, 20, 21, 22, 23, 24, 25, 26, 27, 28, 29, 30, 31, 32, 33, 34, 35, 36] (by decide +kernel) (by decide +kernel)
set_option maxRecDepth 20000 in
theorem gX5_moveAt_X5_canMoveFrom : GoodIn wsX5_moveAt (wsV RX5 62 RX5 yX5_canMoveFrom wsX5_canMoveFrom) := goodIn_app (goodIn_of _ (by decide +kernel)) ggX5_moveAt_X5_canMoveFrom
theorem dX5_moveAt_0 : decode cX5_moveAt 0 = .ok (.iconst 0, 1) := by decide +kernel
theorem dX5_moveAt_1 : decode cX5_moveAt 1 = .ok (.istore_n 2, 1) := by decide +kernel
theorem dX5_moveAt_2 : decode cX5_moveAt 2 = .ok (.iconst 0, 1) := by decide +kernel
theorem dX5_moveAt_3 : decode cX5_moveAt 3 = .ok (.istore_n 3, 1) := by decide +kernel
theorem dX5_moveAt_4 : decode cX5_moveAt 4 = .ok (.iload_n 3, 1) := by decide +kernel
theorem dX5_moveAt_5 : decode cX5_moveAt 5 = .ok (.bipush 14, 2) := by decide +kernel
theorem dX5_moveAt_7 : decode cX5_moveAt 7 = .ok (.if_icmp .gt 27, 3) := by decide +kernel
theorem dX5_moveAt_10 : decode cX5_moveAt 10 = .ok (.aload_n 0, 1) := by decide +kernel
theorem dX5_moveAt_11 : decode cX5_moveAt 11 = .ok (.iload_n 3, 1) := by decide +kernel
theorem dX5_moveAt_12 : decode cX5_moveAt 12 = .ok (.invokevirtual 62, 3) := by decide +kernel
theorem dX5_moveAt_15 : decode cX5_moveAt 15 = .ok (.ifCond .eq 13, 3) := by decide +kernel
theorem dX5_moveAt_18 : decode cX5_moveAt 18 = .ok (.iload_n 2, 1) := by decide +kernel
theorem dX5_moveAt_19 : decode cX5_moveAt 19 = .ok (.iload_n 1, 1) := by decide +kernel
theorem dX5_moveAt_20 : decode cX5_moveAt 20 = .ok (.if_icmp .ne 5, 3) := by decide +kernel
theorem dX5_moveAt_23 : decode cX5_moveAt 23 = .ok (.iload_n 3, 1) := by decide +kernel
theorem dX5_moveAt_24 : decode cX5_moveAt 24 = .ok (.ireturn, 1) := by decide +kernel
theorem dX5_moveAt_25 : decode cX5_moveAt 25 = .ok (.iinc 2 1, 3) := by decide +kernel
theorem dX5_moveAt_28 : decode cX5_moveAt 28 = .ok (.iinc 3 1, 3) := by decide +kernel
theorem dX5_moveAt_31 : decode cX5_moveAt 31 = .ok (.goto (-27), 3) := by decide +kernel
theorem dX5_moveAt_34 : decode cX5_moveAt 34 = .ok (.iconst (-1), 1) := by decide +kernel
theorem dX5_moveAt_35 : decode cX5_moveAt 35 = .ok (.ireturn, 1) := by decide +kernel
set_option maxRecDepth 20000 in
theorem ggX5_captures_X5_refuseOutside : GoodIn wsX5_captures wsX5_refuseOutside := goodIn_ca (goodIn_r _ [7, 8, 9] (by decide +kernel) (by decide +kernel)) (goodIn_sub (fun _ h => List.mem_cons_of_mem _ (List.mem_append_right _ h)) (by decide +kernel))
set_option maxRecDepth 20000 in
theorem gX5_captures_X5_refuseOutside : GoodIn wsX5_captures (va_wsS RX5 36 yX5_refuseOutside wsX5_refuseOutside) := goodIn_app (goodIn_of _ (by decide +kernel)) ggX5_captures_X5_refuseOutside
set_option maxRecDepth 20000 in
theorem ggX5_captures_X5_canMoveFrom : GoodIn wsX5_captures wsX5_canMoveFrom := goodIn_r _ [13, 1, 2, 3, 14, 15, 16, 6, 17, 18, 19, 20, 21, 22, 23, 24, 25, 26, 27, 28, 29, 30, 37, 38, 39, 40, 41, 42, 43, 44, 45, 46, 47] (by decide +kernel) (by decide +kernel)
set_option maxRecDepth 20000 in
theorem gX5_captures_X5_canMoveFrom : GoodIn wsX5_captures (wsV RX5 62 RX5 yX5_canMoveFrom wsX5_canMoveFrom) := goodIn_app (goodIn_of _ (by decide +kernel)) ggX5_captures_X5_canMoveFrom
set_option maxRecDepth 20000 in
theorem ggX5_captures_X5_sideOf : GoodIn wsX5_captures wsX5_sideOf := goodIn_r _ [17, 18, 19, 37, 38, 39, 40, 41, 42, 43, 44, 45] (by decide +kernel) (by decide +kernel)
set_option maxRecDepth 20000 in
theorem gX5_captures_X5_sideOf : GoodIn wsX5_captures (wsV RX5 66 RX5 yX5_sideOf wsX5_sideOf) := goodIn_app (goodIn_of _ (by decide +kernel)) ggX5_captures_X5_sideOf
set_option maxRecDepth 20000 in
theorem ggX5_captures_X2_canBeTaken : GoodIn wsX5_captures wsX2_canBeTaken := goodIn_r _ [33, 34, 35, 29, 36, 24, 25, 22, 26] (by decide +kernel) (by decide +kernel)
set_option maxRecDepth 20000 in
theorem gX5_captures_X2_canBeTaken : GoodIn wsX5_captures (va_wsS RX5 80 yX2_canBeTaken wsX2_canBeTaken) := goodIn_app (goodIn_of _ (by decide +kernel)) ggX5_captures_X2_canBeTaken
theorem dX5_captures_0 : decode cX5_captures 0 = .ok (.iload_n 1, 1) := by decide +kernel
theorem dX5_captures_1 : decode cX5_captures 1 = .ok (.iconst 0, 1) := by decide +kernel
theorem dX5_captures_2 : decode cX5_captures 2 = .ok (.bipush 14, 2) := by decide +kernel
theorem dX5_captures_4 : decode cX5_captures 4 = .ok (.invokestatic 36, 3) := by decide +kernel
theorem dX5_captures_7 : decode cX5_captures 7 = .ok (.aload_n 0, 1) := by decide +kernel
theorem dX5_captures_8 : decode cX5_captures 8 = .ok (.iload_n 1, 1) := by decide +kernel
theorem dX5_captures_9 : decode cX5_captures 9 = .ok (.invokevirtual 62, 3) := by decide +kernel
theorem dX5_captures_12 : decode cX5_captures 12 = .ok (.ifCond .eq 32, 3) := by decide +kernel
theorem dX5_captures_15 : decode cX5_captures 15 = .ok (.aload_n 0, 1) := by decide +kernel
theorem dX5_captures_16 : decode cX5_captures 16 = .ok (.iconst 1, 1) := by decide +kernel
theorem dX5_captures_17 : decode cX5_captures 17 = .ok (.aload_n 0, 1) := by decide +kernel
theorem dX5_captures_18 : decode cX5_captures 18 = .ok (.getfield 59, 3) := by decide +kernel
theorem dX5_captures_21 : decode cX5_captures 21 = .ok (.isub, 1) := by decide +kernel
theorem dX5_captures_22 : decode cX5_captures 22 = .ok (.invokevirtual 66, 3) := by decide +kernel
theorem dX5_captures_25 : decode cX5_captures 25 = .ok (.getfield 70, 3) := by decide +kernel
theorem dX5_captures_28 : decode cX5_captures 28 = .ok (.iload_n 1, 1) := by decide +kernel
theorem dX5_captures_29 : decode cX5_captures 29 = .ok (.aload_n 0, 1) := by decide +kernel
theorem dX5_captures_30 : decode cX5_captures 30 = .ok (.getfield 46, 3) := by decide +kernel
theorem dX5_captures_33 : decode cX5_captures 33 = .ok (.iadd, 1) := by decide +kernel
theorem dX5_captures_34 : decode cX5_captures 34 = .ok (.invokestatic 80, 3) := by decide +kernel
theorem dX5_captures_37 : decode cX5_captures 37 = .ok (.ifCond .eq 7, 3) := by decide +kernel
theorem dX5_captures_40 : decode cX5_captures 40 = .ok (.iconst 1, 1) := by decide +kernel
theorem dX5_captures_41 : decode cX5_captures 41 = .ok (.goto 4, 3) := by decide +kernel
theorem dX5_captures_44 : decode cX5_captures 44 = .ok (.iconst 0, 1) := by decide +kernel
theorem dX5_captures_45 : decode cX5_captures 45 = .ok (.ireturn, 1) := by decide +kernel
set_option maxRecDepth 20000 in
theorem ggX5_worth_X5_refuseOutside : GoodIn wsX5_worth wsX5_refuseOutside := goodIn_ca (goodIn_r _ [6, 7, 8] (by decide +kernel) (by decide +kernel)) (goodIn_sub (fun _ h => List.mem_cons_of_mem _ (List.mem_append_right _ h)) (by decide +kernel))
set_option maxRecDepth 20000 in
theorem gX5_worth_X5_refuseOutside : GoodIn wsX5_worth (va_wsS RX5 36 yX5_refuseOutside wsX5_refuseOutside) := goodIn_app (goodIn_of _ (by decide +kernel)) ggX5_worth_X5_refuseOutside
set_option maxRecDepth 20000 in
theorem ggX5_worth_X5_worthForTurn : GoodIn wsX5_worth wsX5_worthForTurn := goodIn_r _ [12, 13, 1, 2, 14, 15, 16, 17, 18, 19, 20, 21, 22, 23, 24, 25, 26, 27, 28, 29, 30, 31, 32, 33, 34, 35, 36, 37, 38, 39, 40, 41, 42, 43, 44, 45, 46, 47, 48, 49, 50, 51, 52, 53, 54, 55, 56, 57, 58, 59, 60, 61, 62, 63, 64, 5, 65, 66, 67, 68, 69, 70, 71, 72, 73, 74, 75, 76, 77, 78, 79, 80, 81, 82, 83, 84, 85, 86, 87, 88, 89, 90, 91, 92, 93, 94, 95, 96, 97, 98, 99, 100, 101, 102, 103, 104, 105, 106, 107, 108, 109, 110, 111, 112, 113, 114, 115, 116, 117, 118, 119, 120, 121, 122, 123, 124, 125, 126, 127, 128, 129, 130, 131, 132, 133, 134, 135, 136, 137, 138] (by decide +kernel) (by decide +kernel)
set_option maxRecDepth 20000 in
theorem gX5_worth_X5_worthForTurn : GoodIn wsX5_worth (wsV RX5 102 RX5 yX5_worthForTurn wsX5_worthForTurn) := goodIn_app (goodIn_of _ (by decide +kernel)) ggX5_worth_X5_worthForTurn
theorem dX5_worth_0 : decode cX5_worth 0 = .ok (.iload_n 1, 1) := by decide +kernel
theorem dX5_worth_1 : decode cX5_worth 1 = .ok (.iconst 0, 1) := by decide +kernel
theorem dX5_worth_2 : decode cX5_worth 2 = .ok (.iconst 3, 1) := by decide +kernel
theorem dX5_worth_3 : decode cX5_worth 3 = .ok (.invokestatic 36, 3) := by decide +kernel
theorem dX5_worth_6 : decode cX5_worth 6 = .ok (.aload_n 0, 1) := by decide +kernel
theorem dX5_worth_7 : decode cX5_worth 7 = .ok (.iload_n 1, 1) := by decide +kernel
theorem dX5_worth_8 : decode cX5_worth 8 = .ok (.invokevirtual 102, 3) := by decide +kernel
theorem dX5_worth_11 : decode cX5_worth 11 = .ok (.istore_n 2, 1) := by decide +kernel
theorem dX5_worth_12 : decode cX5_worth 12 = .ok (.aload_n 0, 1) := by decide +kernel
theorem dX5_worth_13 : decode cX5_worth 13 = .ok (.getfield 59, 3) := by decide +kernel
theorem dX5_worth_16 : decode cX5_worth 16 = .ok (.ifCond .ne 7, 3) := by decide +kernel
theorem dX5_worth_19 : decode cX5_worth 19 = .ok (.iload_n 2, 1) := by decide +kernel
theorem dX5_worth_20 : decode cX5_worth 20 = .ok (.goto 7, 3) := by decide +kernel
theorem dX5_worth_23 : decode cX5_worth 23 = .ok (.ldc 105, 2) := by decide +kernel
theorem dX5_worth_25 : decode cX5_worth 25 = .ok (.iload_n 2, 1) := by decide +kernel
theorem dX5_worth_26 : decode cX5_worth 26 = .ok (.isub, 1) := by decide +kernel
theorem dX5_worth_27 : decode cX5_worth 27 = .ok (.ireturn, 1) := by decide +kernel
set_option maxRecDepth 20000 in
theorem ggX5_chance_X5_refuseOutside : GoodIn wsX5_chance wsX5_refuseOutside := goodIn_ca (goodIn_r _ [5, 6, 7] (by decide +kernel) (by decide +kernel)) (goodIn_sub (fun _ h => List.mem_cons_of_mem _ (List.mem_append_right _ h)) (by decide +kernel))
set_option maxRecDepth 20000 in
theorem gX5_chance_X5_refuseOutside : GoodIn wsX5_chance (va_wsS RX5 36 yX5_refuseOutside wsX5_refuseOutside) := goodIn_app (goodIn_of _ (by decide +kernel)) ggX5_chance_X5_refuseOutside
set_option maxRecDepth 20000 in
theorem ggX5_chance_X5_worthForTurn : GoodIn wsX5_chance wsX5_worthForTurn := goodIn_r _ [11, 12, 13, 14, 15, 16, 17, 18, 19, 20, 21, 22, 23, 24, 25, 26, 27, 28, 29, 30, 31, 32, 33, 34, 35, 36, 37, 38, 39, 40, 41, 42, 43, 44, 45, 46, 47, 48, 49, 50, 51, 52, 53, 54, 55, 56, 57, 58, 59, 60, 61, 62, 63, 64, 65, 4, 66, 67, 68, 69, 70, 71, 72, 73, 74, 75, 76, 77, 78, 79, 80, 81, 82, 83, 84, 85, 86, 87, 88, 89, 90, 91, 92, 93, 94, 95, 96, 97, 98, 99, 100, 101, 102, 103, 104, 105, 106, 107, 108, 109, 110, 111, 112, 113, 114, 115, 116, 117, 118, 119, 120, 121, 122, 123, 124, 125, 126, 127, 128, 129, 130, 131, 132, 133, 134, 135, 136, 137, 138, 139] (by decide +kernel) (by decide +kernel)
set_option maxRecDepth 20000 in
theorem gX5_chance_X5_worthForTurn : GoodIn wsX5_chance (wsV RX5 102 RX5 yX5_worthForTurn wsX5_worthForTurn) := goodIn_app (goodIn_of _ (by decide +kernel)) ggX5_chance_X5_worthForTurn
theorem dX5_chance_0 : decode cX5_chance 0 = .ok (.iload_n 1, 1) := by decide +kernel
theorem dX5_chance_1 : decode cX5_chance 1 = .ok (.iconst 0, 1) := by decide +kernel
theorem dX5_chance_2 : decode cX5_chance 2 = .ok (.iconst 3, 1) := by decide +kernel
theorem dX5_chance_3 : decode cX5_chance 3 = .ok (.invokestatic 36, 3) := by decide +kernel
theorem dX5_chance_6 : decode cX5_chance 6 = .ok (.aload_n 0, 1) := by decide +kernel
theorem dX5_chance_7 : decode cX5_chance 7 = .ok (.iload_n 1, 1) := by decide +kernel
theorem dX5_chance_8 : decode cX5_chance 8 = .ok (.invokevirtual 102, 3) := by decide +kernel
theorem dX5_chance_11 : decode cX5_chance 11 = .ok (.i2d, 1) := by decide +kernel
theorem dX5_chance_12 : decode cX5_chance 12 = .ok (.ldc2_w 106, 3) := by decide +kernel
theorem dX5_chance_15 : decode cX5_chance 15 = .ok (.ddiv, 1) := by decide +kernel
theorem dX5_chance_16 : decode cX5_chance 16 = .ok (.dreturn, 1) := by decide +kernel
set_option maxRecDepth 20000 in
theorem ggX5_ranked_X5_refuseOutside : GoodIn wsX5_ranked wsX5_refuseOutside := goodIn_ca (goodIn_r _ [8, 1, 2] (by decide +kernel) (by decide +kernel)) (goodIn_sub (fun _ h => List.mem_cons_of_mem _ (List.mem_append_right _ h)) (by decide +kernel))
set_option maxRecDepth 20000 in
theorem gX5_ranked_X5_refuseOutside : GoodIn wsX5_ranked (va_wsS RX5 36 yX5_refuseOutside wsX5_refuseOutside) := goodIn_app (goodIn_of _ (by decide +kernel)) ggX5_ranked_X5_refuseOutside
set_option maxRecDepth 20000 in
theorem ggX5_ranked_X5_countMoves : GoodIn wsX5_ranked wsX5_countMoves := goodIn_r _ [12, 13, 14, 15, 16, 17, 7, 18, 19, 20, 21, 22, 23, 24, 25, 26, 27, 28, 29, 30, 31, 134, 135, 136, 137, 138, 139, 140, 141, 142, 143, 144] (by decide +kernel) (by decide +kernel)
set_option maxRecDepth 20000 in
theorem gX5_ranked_X5_countMoves : GoodIn wsX5_ranked (wsV RX5 55 RX5 yX5_countMoves wsX5_countMoves) := goodIn_app (goodIn_of _ (by decide +kernel)) ggX5_ranked_X5_countMoves
set_option maxRecDepth 20000 in
theorem ggX5_ranked_X5_noteWorthsBehind : GoodIn wsX5_ranked wsX5_noteWorthsBehind := goodIn_r _ [35, 36, 13, 14, 4, 3, 37, 38, 39, 40, 41, 42, 43, 44, 45, 46, 47, 48, 49, 50, 51, 52, 53, 54, 55, 56, 57, 58, 59, 60, 61, 62, 63, 64, 65, 66, 67, 68, 69, 70, 71, 72, 29, 30, 31, 73, 74, 75, 76, 77, 78, 15, 16, 17, 7, 18, 19, 20, 79, 80, 81, 82, 83, 84, 23, 85, 25, 26, 27, 21, 22, 24, 28, 86, 87, 88, 89, 90, 91, 92, 93, 94, 95, 96, 97, 98, 99, 100, 101, 102, 103, 104, 105, 106, 107, 108, 109, 110, 111, 112, 113, 114, 115, 116, 117, 118, 119, 120, 121, 122, 123, 124, 125, 126, 127, 128, 129, 134, 135, 136, 137, 138, 139, 140, 141, 142, 143, 144, 145, 146] (by decide +kernel) (by decide +kernel)
set_option maxRecDepth 20000 in
theorem gX5_ranked_X5_noteWorthsBehind : GoodIn wsX5_ranked (wsV RX5 111 RX5 yX5_noteWorthsBehind wsX5_noteWorthsBehind) := goodIn_app (goodIn_of _ (by decide +kernel)) ggX5_ranked_X5_noteWorthsBehind
set_option maxRecDepth 20000 in
theorem ggX5_ranked_X5_countBetter : GoodIn wsX5_ranked wsX5_countBetter := goodIn_r _ [133, 4, 134, 135, 136, 137, 138, 139, 140, 141, 142] (by decide +kernel) (by decide +kernel)
set_option maxRecDepth 20000 in
theorem gX5_ranked_X5_countBetter : GoodIn wsX5_ranked (wsV RX5 114 RX5 yX5_countBetter wsX5_countBetter) := goodIn_app (goodIn_of _ (by decide +kernel)) ggX5_ranked_X5_countBetter
theorem dX5_ranked_0 : decode cX5_ranked 0 = .ok (.iload_n 1, 1) := by decide +kernel
theorem dX5_ranked_1 : decode cX5_ranked 1 = .ok (.iconst 0, 1) := by decide +kernel
theorem dX5_ranked_2 : decode cX5_ranked 2 = .ok (.iconst 3, 1) := by decide +kernel
theorem dX5_ranked_3 : decode cX5_ranked 3 = .ok (.invokestatic 36, 3) := by decide +kernel
theorem dX5_ranked_6 : decode cX5_ranked 6 = .ok (.iload_n 2, 1) := by decide +kernel
theorem dX5_ranked_7 : decode cX5_ranked 7 = .ok (.ifCond .ge 11, 3) := by decide +kernel
theorem dX5_ranked_10 : decode cX5_ranked 10 = .ok (.new 108, 3) := by decide +kernel
theorem dX5_ranked_13 : decode cX5_ranked 13 = .ok (.dup, 1) := by decide +kernel
theorem dX5_ranked_14 : decode cX5_ranked 14 = .ok (.invokespecial 110, 3) := by decide +kernel
theorem dX5_ranked_17 : decode cX5_ranked 17 = .ok (.athrow, 1) := by decide +kernel
theorem dX5_ranked_18 : decode cX5_ranked 18 = .ok (.iload_n 2, 1) := by decide +kernel
theorem dX5_ranked_19 : decode cX5_ranked 19 = .ok (.aload_n 0, 1) := by decide +kernel
theorem dX5_ranked_20 : decode cX5_ranked 20 = .ok (.aload_n 0, 1) := by decide +kernel
theorem dX5_ranked_21 : decode cX5_ranked 21 = .ok (.getfield 46, 3) := by decide +kernel
theorem dX5_ranked_24 : decode cX5_ranked 24 = .ok (.invokevirtual 55, 3) := by decide +kernel
theorem dX5_ranked_27 : decode cX5_ranked 27 = .ok (.if_icmp .lt 5, 3) := by decide +kernel
theorem dX5_ranked_30 : decode cX5_ranked 30 = .ok (.iconst (-1), 1) := by decide +kernel
theorem dX5_ranked_31 : decode cX5_ranked 31 = .ok (.ireturn, 1) := by decide +kernel
theorem dX5_ranked_32 : decode cX5_ranked 32 = .ok (.aload_n 0, 1) := by decide +kernel
theorem dX5_ranked_33 : decode cX5_ranked 33 = .ok (.iload_n 1, 1) := by decide +kernel
theorem dX5_ranked_34 : decode cX5_ranked 34 = .ok (.invokevirtual 111, 3) := by decide +kernel
theorem dX5_ranked_37 : decode cX5_ranked 37 = .ok (.iconst 0, 1) := by decide +kernel
theorem dX5_ranked_38 : decode cX5_ranked 38 = .ok (.istore_n 3, 1) := by decide +kernel
theorem dX5_ranked_39 : decode cX5_ranked 39 = .ok (.iload_n 3, 1) := by decide +kernel
theorem dX5_ranked_40 : decode cX5_ranked 40 = .ok (.aload_n 0, 1) := by decide +kernel
theorem dX5_ranked_41 : decode cX5_ranked 41 = .ok (.getfield 28, 3) := by decide +kernel
theorem dX5_ranked_44 : decode cX5_ranked 44 = .ok (.arraylength, 1) := by decide +kernel
theorem dX5_ranked_45 : decode cX5_ranked 45 = .ok (.if_icmp .ge 36, 3) := by decide +kernel
theorem dX5_ranked_48 : decode cX5_ranked 48 = .ok (.aload_n 0, 1) := by decide +kernel
theorem dX5_ranked_49 : decode cX5_ranked 49 = .ok (.getfield 28, 3) := by decide +kernel
theorem dX5_ranked_52 : decode cX5_ranked 52 = .ok (.iload_n 3, 1) := by decide +kernel
theorem dX5_ranked_53 : decode cX5_ranked 53 = .ok (.iaload, 1) := by decide +kernel
theorem dX5_ranked_54 : decode cX5_ranked 54 = .ok (.istore 4, 2) := by decide +kernel
theorem dX5_ranked_56 : decode cX5_ranked 56 = .ok (.iload 4, 2) := by decide +kernel
theorem dX5_ranked_58 : decode cX5_ranked 58 = .ok (.iconst (-1), 1) := by decide +kernel
theorem dX5_ranked_59 : decode cX5_ranked 59 = .ok (.if_icmp .eq 16, 3) := by decide +kernel
theorem dX5_ranked_62 : decode cX5_ranked 62 = .ok (.aload_n 0, 1) := by decide +kernel
theorem dX5_ranked_63 : decode cX5_ranked 63 = .ok (.iload_n 3, 1) := by decide +kernel
theorem dX5_ranked_64 : decode cX5_ranked 64 = .ok (.iload 4, 2) := by decide +kernel
theorem dX5_ranked_66 : decode cX5_ranked 66 = .ok (.invokevirtual 114, 3) := by decide +kernel
theorem dX5_ranked_69 : decode cX5_ranked 69 = .ok (.iload_n 2, 1) := by decide +kernel
theorem dX5_ranked_70 : decode cX5_ranked 70 = .ok (.if_icmp .ne 5, 3) := by decide +kernel
theorem dX5_ranked_73 : decode cX5_ranked 73 = .ok (.iload_n 3, 1) := by decide +kernel
theorem dX5_ranked_74 : decode cX5_ranked 74 = .ok (.ireturn, 1) := by decide +kernel
theorem dX5_ranked_75 : decode cX5_ranked 75 = .ok (.iinc 3 1, 3) := by decide +kernel
theorem dX5_ranked_78 : decode cX5_ranked 78 = .ok (.goto (-39), 3) := by decide +kernel
theorem dX5_ranked_81 : decode cX5_ranked 81 = .ok (.iconst (-1), 1) := by decide +kernel
theorem dX5_ranked_82 : decode cX5_ranked 82 = .ok (.ireturn, 1) := by decide +kernel
set_option maxRecDepth 20000 in
theorem ggX5_ending_X5_refuseEnding : GoodIn wsX5_ending wsX5_refuseEnding := goodIn_ca (goodIn_r _ [5, 6, 7, 8, 9, 4, 10, 11, 12, 13, 14] (by decide +kernel) (by decide +kernel)) (goodIn_sub (fun _ h => List.mem_cons_of_mem _ (List.mem_append_right _ h)) (by decide +kernel))
set_option maxRecDepth 20000 in
theorem gX5_ending_X5_refuseEnding : GoodIn wsX5_ending (va_wsS RX5 118 yX5_refuseEnding wsX5_refuseEnding) := goodIn_app (goodIn_of _ (by decide +kernel)) ggX5_ending_X5_refuseEnding
set_option maxRecDepth 20000 in
theorem ggX5_ending_X5_refuseOutside : GoodIn wsX5_ending wsX5_refuseOutside := goodIn_ca (goodIn_r _ [10, 6, 7] (by decide +kernel) (by decide +kernel)) (goodIn_sub (fun _ h => List.mem_cons_of_mem _ (List.mem_append_right _ h)) (by decide +kernel))
set_option maxRecDepth 20000 in
theorem gX5_ending_X5_refuseOutside : GoodIn wsX5_ending (va_wsS RX5 36 yX5_refuseOutside wsX5_refuseOutside) := goodIn_app (goodIn_of _ (by decide +kernel)) ggX5_ending_X5_refuseOutside
set_option maxRecDepth 20000 in
theorem ggX5_ending_X1_fillUpTo : GoodIn wsX5_ending wsX1_fillUpTo := goodIn_r _ [19, 20, 21, 22, 23, 24, 25, 26, 27, 18, 28, 29, 30, 31, 32, 33, 34, 35, 36, 37, 38, 39, 40, 41, 42, 43, 44, 45, 46, 47, 48, 49, 50, 51, 13, 52, 53, 12, 14, 54, 55, 56, 67, 68] (by decide +kernel) (by decide +kernel)
set_option maxRecDepth 20000 in
theorem gX5_ending_X1_fillUpTo : GoodIn wsX5_ending (wsV RX5 122 RX1 yX1_fillUpTo wsX1_fillUpTo) := goodIn_app (goodIn_of _ (by decide +kernel)) ggX5_ending_X1_fillUpTo
set_option maxRecDepth 20000 in
theorem ggX5_ending_X1_held : GoodIn wsX5_ending wsX1_held := goodIn_r _ [38, 39, 29, 67, 68] (by decide +kernel) (by decide +kernel)
set_option maxRecDepth 20000 in
theorem gX5_ending_X1_held : GoodIn wsX5_ending (wsV RX5 125 RX1 yX1_held wsX1_held) := goodIn_app (goodIn_of _ (by decide +kernel)) ggX5_ending_X1_held
theorem dX5_ending_0 : decode cX5_ending 0 = .ok (.iload_n 1, 1) := by decide +kernel
theorem dX5_ending_1 : decode cX5_ending 1 = .ok (.iload_n 2, 1) := by decide +kernel
theorem dX5_ending_2 : decode cX5_ending 2 = .ok (.invokestatic 118, 3) := by decide +kernel
theorem dX5_ending_5 : decode cX5_ending 5 = .ok (.iload_n 3, 1) := by decide +kernel
theorem dX5_ending_6 : decode cX5_ending 6 = .ok (.iconst 0, 1) := by decide +kernel
theorem dX5_ending_7 : decode cX5_ending 7 = .ok (.bipush 60, 2) := by decide +kernel
theorem dX5_ending_9 : decode cX5_ending 9 = .ok (.invokestatic 36, 3) := by decide +kernel
theorem dX5_ending_12 : decode cX5_ending 12 = .ok (.aload_n 0, 1) := by decide +kernel
theorem dX5_ending_13 : decode cX5_ending 13 = .ok (.getfield 22, 3) := by decide +kernel
theorem dX5_ending_16 : decode cX5_ending 16 = .ok (.iload_n 3, 1) := by decide +kernel
theorem dX5_ending_17 : decode cX5_ending 17 = .ok (.invokevirtual 122, 3) := by decide +kernel
theorem dX5_ending_20 : decode cX5_ending 20 = .ok (.aload_n 0, 1) := by decide +kernel
theorem dX5_ending_21 : decode cX5_ending 21 = .ok (.getfield 22, 3) := by decide +kernel
theorem dX5_ending_24 : decode cX5_ending 24 = .ok (.iload_n 1, 1) := by decide +kernel
theorem dX5_ending_25 : decode cX5_ending 25 = .ok (.iload_n 2, 1) := by decide +kernel
theorem dX5_ending_26 : decode cX5_ending 26 = .ok (.iload_n 3, 1) := by decide +kernel
theorem dX5_ending_27 : decode cX5_ending 27 = .ok (.invokevirtual 125, 3) := by decide +kernel
theorem dX5_ending_30 : decode cX5_ending 30 = .ok (.ireturn, 1) := by decide +kernel
set_option maxRecDepth 20000 in
theorem ggX5_endingByThrows_X5_refuseEnding : GoodIn wsX5_endingByThrows wsX5_refuseEnding := goodIn_ca (goodIn_r _ [5, 6, 7, 8, 9, 4, 10, 11, 12, 13, 14] (by decide +kernel) (by decide +kernel)) (goodIn_sub (fun _ h => List.mem_cons_of_mem _ (List.mem_append_right _ h)) (by decide +kernel))
set_option maxRecDepth 20000 in
theorem gX5_endingByThrows_X5_refuseEnding : GoodIn wsX5_endingByThrows (va_wsS RX5 118 yX5_refuseEnding wsX5_refuseEnding) := goodIn_app (goodIn_of _ (by decide +kernel)) ggX5_endingByThrows_X5_refuseEnding
set_option maxRecDepth 20000 in
theorem ggX5_endingByThrows_X5_refuseOutside : GoodIn wsX5_endingByThrows wsX5_refuseOutside := goodIn_ca (goodIn_r _ [10, 6, 7] (by decide +kernel) (by decide +kernel)) (goodIn_sub (fun _ h => List.mem_cons_of_mem _ (List.mem_append_right _ h)) (by decide +kernel))
set_option maxRecDepth 20000 in
theorem gX5_endingByThrows_X5_refuseOutside : GoodIn wsX5_endingByThrows (va_wsS RX5 36 yX5_refuseOutside wsX5_refuseOutside) := goodIn_app (goodIn_of _ (by decide +kernel)) ggX5_endingByThrows_X5_refuseOutside
set_option maxRecDepth 20000 in
theorem ggX5_endingByThrows_X1_playedOut : GoodIn wsX5_endingByThrows wsX1_playedOut := goodIn_r _ [19, 20, 21, 22, 18, 23, 24, 25, 26, 27, 28, 29, 30, 31, 32, 33, 34, 35, 36, 37, 38, 39, 40, 41, 42, 13, 43, 44, 12, 14, 45, 46, 47, 57, 58] (by decide +kernel) (by decide +kernel)
set_option maxRecDepth 20000 in
theorem gX5_endingByThrows_X1_playedOut : GoodIn wsX5_endingByThrows (wsV RX5 129 RX1 yX1_playedOut wsX1_playedOut) := goodIn_app (goodIn_of _ (by decide +kernel)) ggX5_endingByThrows_X1_playedOut
theorem dX5_endingByThrows_0 : decode cX5_endingByThrows 0 = .ok (.iload_n 1, 1) := by decide +kernel
theorem dX5_endingByThrows_1 : decode cX5_endingByThrows 1 = .ok (.iload_n 2, 1) := by decide +kernel
theorem dX5_endingByThrows_2 : decode cX5_endingByThrows 2 = .ok (.invokestatic 118, 3) := by decide +kernel
theorem dX5_endingByThrows_5 : decode cX5_endingByThrows 5 = .ok (.iload_n 3, 1) := by decide +kernel
theorem dX5_endingByThrows_6 : decode cX5_endingByThrows 6 = .ok (.iconst 0, 1) := by decide +kernel
theorem dX5_endingByThrows_7 : decode cX5_endingByThrows 7 = .ok (.iconst 5, 1) := by decide +kernel
theorem dX5_endingByThrows_8 : decode cX5_endingByThrows 8 = .ok (.invokestatic 36, 3) := by decide +kernel
theorem dX5_endingByThrows_11 : decode cX5_endingByThrows 11 = .ok (.aload_n 0, 1) := by decide +kernel
theorem dX5_endingByThrows_12 : decode cX5_endingByThrows 12 = .ok (.getfield 22, 3) := by decide +kernel
theorem dX5_endingByThrows_15 : decode cX5_endingByThrows 15 = .ok (.iload_n 1, 1) := by decide +kernel
theorem dX5_endingByThrows_16 : decode cX5_endingByThrows 16 = .ok (.iload_n 2, 1) := by decide +kernel
theorem dX5_endingByThrows_17 : decode cX5_endingByThrows 17 = .ok (.iload_n 3, 1) := by decide +kernel
theorem dX5_endingByThrows_18 : decode cX5_endingByThrows 18 = .ok (.invokevirtual 129, 3) := by decide +kernel
theorem dX5_endingByThrows_21 : decode cX5_endingByThrows 21 = .ok (.ireturn, 1) := by decide +kernel
theorem dX5_refuseOutside_0 : decode cX5_refuseOutside 0 = .ok (.iload_n 0, 1) := by decide +kernel
theorem dX5_refuseOutside_1 : decode cX5_refuseOutside 1 = .ok (.iload_n 1, 1) := by decide +kernel
theorem dX5_refuseOutside_2 : decode cX5_refuseOutside 2 = .ok (.if_icmp .lt 8, 3) := by decide +kernel
theorem dX5_refuseOutside_5 : decode cX5_refuseOutside 5 = .ok (.iload_n 0, 1) := by decide +kernel
theorem dX5_refuseOutside_6 : decode cX5_refuseOutside 6 = .ok (.iload_n 2, 1) := by decide +kernel
theorem dX5_refuseOutside_7 : decode cX5_refuseOutside 7 = .ok (.if_icmp .le 11, 3) := by decide +kernel
theorem dX5_refuseOutside_10 : decode cX5_refuseOutside 10 = .ok (.new 108, 3) := by decide +kernel
theorem dX5_refuseOutside_13 : decode cX5_refuseOutside 13 = .ok (.dup, 1) := by decide +kernel
theorem dX5_refuseOutside_14 : decode cX5_refuseOutside 14 = .ok (.invokespecial 110, 3) := by decide +kernel
theorem dX5_refuseOutside_17 : decode cX5_refuseOutside 17 = .ok (.athrow, 1) := by decide +kernel
theorem dX5_refuseOutside_18 : decode cX5_refuseOutside 18 = .ok (.return_, 1) := by decide +kernel
set_option maxRecDepth 20000 in
theorem ggX5_refuseEnding_X5_refuseOutside : GoodIn wsX5_refuseEnding wsX5_refuseOutside := goodIn_ca (goodIn_r _ [6, 1, 2] (by decide +kernel) (by decide +kernel)) (goodIn_sub (fun _ h => List.mem_cons_of_mem _ (List.mem_append_right _ h)) (by decide +kernel))
set_option maxRecDepth 20000 in
theorem gX5_refuseEnding_X5_refuseOutside : GoodIn wsX5_refuseEnding (va_wsS RX5 36 yX5_refuseOutside wsX5_refuseOutside) := goodIn_app (goodIn_of _ (by decide +kernel)) ggX5_refuseEnding_X5_refuseOutside
set_option maxRecDepth 20000 in
theorem ggX5_refuseEnding_X4_isShared : GoodIn wsX5_refuseEnding wsX4_isShared := goodIn_r _ [10] (by decide +kernel) (by decide +kernel)
set_option maxRecDepth 20000 in
theorem gX5_refuseEnding_X4_isShared : GoodIn wsX5_refuseEnding (va_wsS RX5 132 yX4_isShared wsX4_isShared) := goodIn_app (goodIn_of _ (by decide +kernel)) ggX5_refuseEnding_X4_isShared
theorem dX5_refuseEnding_0 : decode cX5_refuseEnding 0 = .ok (.iload_n 0, 1) := by decide +kernel
theorem dX5_refuseEnding_1 : decode cX5_refuseEnding 1 = .ok (.iconst 0, 1) := by decide +kernel
theorem dX5_refuseEnding_2 : decode cX5_refuseEnding 2 = .ok (.bipush 14, 2) := by decide +kernel
theorem dX5_refuseEnding_4 : decode cX5_refuseEnding 4 = .ok (.invokestatic 36, 3) := by decide +kernel
theorem dX5_refuseEnding_7 : decode cX5_refuseEnding 7 = .ok (.iload_n 1, 1) := by decide +kernel
theorem dX5_refuseEnding_8 : decode cX5_refuseEnding 8 = .ok (.iconst 0, 1) := by decide +kernel
theorem dX5_refuseEnding_9 : decode cX5_refuseEnding 9 = .ok (.bipush 14, 2) := by decide +kernel
theorem dX5_refuseEnding_11 : decode cX5_refuseEnding 11 = .ok (.invokestatic 36, 3) := by decide +kernel
theorem dX5_refuseEnding_14 : decode cX5_refuseEnding 14 = .ok (.iload_n 0, 1) := by decide +kernel
theorem dX5_refuseEnding_15 : decode cX5_refuseEnding 15 = .ok (.iload_n 1, 1) := by decide +kernel
theorem dX5_refuseEnding_16 : decode cX5_refuseEnding 16 = .ok (.if_icmp .ne 18, 3) := by decide +kernel
theorem dX5_refuseEnding_19 : decode cX5_refuseEnding 19 = .ok (.iload_n 0, 1) := by decide +kernel
theorem dX5_refuseEnding_20 : decode cX5_refuseEnding 20 = .ok (.invokestatic 132, 3) := by decide +kernel
theorem dX5_refuseEnding_23 : decode cX5_refuseEnding 23 = .ok (.ifCond .eq 11, 3) := by decide +kernel
theorem dX5_refuseEnding_26 : decode cX5_refuseEnding 26 = .ok (.new 108, 3) := by decide +kernel
theorem dX5_refuseEnding_29 : decode cX5_refuseEnding 29 = .ok (.dup, 1) := by decide +kernel
theorem dX5_refuseEnding_30 : decode cX5_refuseEnding 30 = .ok (.invokespecial 110, 3) := by decide +kernel
theorem dX5_refuseEnding_33 : decode cX5_refuseEnding 33 = .ok (.athrow, 1) := by decide +kernel
theorem dX5_refuseEnding_34 : decode cX5_refuseEnding 34 = .ok (.return_, 1) := by decide +kernel
set_option maxRecDepth 20000 in
theorem ggX5_setUp_X2_allAtStart : GoodIn wsX5_setUp wsX2_allAtStart := goodIn_r _ [13] (by decide +kernel) (by decide +kernel)
set_option maxRecDepth 20000 in
theorem gX5_setUp_X2_allAtStart : GoodIn wsX5_setUp (va_wsS RX5 138 yX2_allAtStart wsX2_allAtStart) := goodIn_app (goodIn_of _ (by decide +kernel)) ggX5_setUp_X2_allAtStart
theorem dX5_setUp_0 : decode cX5_setUp 0 = .ok (.aload_n 0, 1) := by decide +kernel
theorem dX5_setUp_1 : decode cX5_setUp 1 = .ok (.iload_n 1, 1) := by decide +kernel
theorem dX5_setUp_2 : decode cX5_setUp 2 = .ok (.putfield 135, 3) := by decide +kernel
theorem dX5_setUp_5 : decode cX5_setUp 5 = .ok (.aload_n 0, 1) := by decide +kernel
theorem dX5_setUp_6 : decode cX5_setUp 6 = .ok (.getfield 10, 3) := by decide +kernel
theorem dX5_setUp_9 : decode cX5_setUp 9 = .ok (.iload_n 1, 1) := by decide +kernel
theorem dX5_setUp_10 : decode cX5_setUp 10 = .ok (.invokestatic 138, 3) := by decide +kernel
theorem dX5_setUp_13 : decode cX5_setUp 13 = .ok (.putfield 70, 3) := by decide +kernel
theorem dX5_setUp_16 : decode cX5_setUp 16 = .ok (.aload_n 0, 1) := by decide +kernel
theorem dX5_setUp_17 : decode cX5_setUp 17 = .ok (.getfield 16, 3) := by decide +kernel
theorem dX5_setUp_20 : decode cX5_setUp 20 = .ok (.iload_n 1, 1) := by decide +kernel
theorem dX5_setUp_21 : decode cX5_setUp 21 = .ok (.invokestatic 138, 3) := by decide +kernel
theorem dX5_setUp_24 : decode cX5_setUp 24 = .ok (.putfield 70, 3) := by decide +kernel
theorem dX5_setUp_27 : decode cX5_setUp 27 = .ok (.aload_n 0, 1) := by decide +kernel
theorem dX5_setUp_28 : decode cX5_setUp 28 = .ok (.getfield 10, 3) := by decide +kernel
theorem dX5_setUp_31 : decode cX5_setUp 31 = .ok (.iconst 0, 1) := by decide +kernel
theorem dX5_setUp_32 : decode cX5_setUp 32 = .ok (.putfield 84, 3) := by decide +kernel
theorem dX5_setUp_35 : decode cX5_setUp 35 = .ok (.aload_n 0, 1) := by decide +kernel
theorem dX5_setUp_36 : decode cX5_setUp 36 = .ok (.getfield 16, 3) := by decide +kernel
theorem dX5_setUp_39 : decode cX5_setUp 39 = .ok (.iconst 0, 1) := by decide +kernel
theorem dX5_setUp_40 : decode cX5_setUp 40 = .ok (.putfield 84, 3) := by decide +kernel
theorem dX5_setUp_43 : decode cX5_setUp 43 = .ok (.aload_n 0, 1) := by decide +kernel
theorem dX5_setUp_44 : decode cX5_setUp 44 = .ok (.iconst 0, 1) := by decide +kernel
theorem dX5_setUp_45 : decode cX5_setUp 45 = .ok (.putfield 59, 3) := by decide +kernel
theorem dX5_setUp_48 : decode cX5_setUp 48 = .ok (.aload_n 0, 1) := by decide +kernel
theorem dX5_setUp_49 : decode cX5_setUp 49 = .ok (.iconst (-1), 1) := by decide +kernel
theorem dX5_setUp_50 : decode cX5_setUp 50 = .ok (.putfield 46, 3) := by decide +kernel
theorem dX5_setUp_53 : decode cX5_setUp 53 = .ok (.aload_n 0, 1) := by decide +kernel
theorem dX5_setUp_54 : decode cX5_setUp 54 = .ok (.iconst (-1), 1) := by decide +kernel
theorem dX5_setUp_55 : decode cX5_setUp 55 = .ok (.putfield 42, 3) := by decide +kernel
theorem dX5_setUp_58 : decode cX5_setUp 58 = .ok (.aload_n 0, 1) := by decide +kernel
theorem dX5_setUp_59 : decode cX5_setUp 59 = .ok (.iconst 0, 1) := by decide +kernel
theorem dX5_setUp_60 : decode cX5_setUp 60 = .ok (.putfield 52, 3) := by decide +kernel
theorem dX5_setUp_63 : decode cX5_setUp 63 = .ok (.return_, 1) := by decide +kernel
theorem dX5_sideOf_0 : decode cX5_sideOf 0 = .ok (.iload_n 1, 1) := by decide +kernel
theorem dX5_sideOf_1 : decode cX5_sideOf 1 = .ok (.ifCond .ne 10, 3) := by decide +kernel
theorem dX5_sideOf_4 : decode cX5_sideOf 4 = .ok (.aload_n 0, 1) := by decide +kernel
theorem dX5_sideOf_5 : decode cX5_sideOf 5 = .ok (.getfield 10, 3) := by decide +kernel
theorem dX5_sideOf_8 : decode cX5_sideOf 8 = .ok (.goto 7, 3) := by decide +kernel
theorem dX5_sideOf_11 : decode cX5_sideOf 11 = .ok (.aload_n 0, 1) := by decide +kernel
theorem dX5_sideOf_12 : decode cX5_sideOf 12 = .ok (.getfield 16, 3) := by decide +kernel
theorem dX5_sideOf_15 : decode cX5_sideOf 15 = .ok (.areturn, 1) := by decide +kernel
set_option maxRecDepth 20000 in
theorem ggX5_canMoveFrom_X5_sideOf : GoodIn wsX5_canMoveFrom wsX5_sideOf := goodIn_r _ [8, 9, 10, 22, 23, 24, 25, 26, 27, 28, 29, 30] (by decide +kernel) (by decide +kernel)
set_option maxRecDepth 20000 in
theorem gX5_canMoveFrom_X5_sideOf : GoodIn wsX5_canMoveFrom (wsV RX5 66 RX5 yX5_sideOf wsX5_sideOf) := goodIn_app (goodIn_of _ (by decide +kernel)) ggX5_canMoveFrom_X5_sideOf
set_option maxRecDepth 20000 in
theorem ggX5_canMoveFrom_X2_canMove : GoodIn wsX5_canMoveFrom wsX2_canMove := goodIn_r _ [14, 15, 16, 13, 17, 18, 19, 20, 21] (by decide +kernel) (by decide +kernel)
set_option maxRecDepth 20000 in
theorem gX5_canMoveFrom_X2_canMove : GoodIn wsX5_canMoveFrom (va_wsS RX5 142 yX2_canMove wsX2_canMove) := goodIn_app (goodIn_of _ (by decide +kernel)) ggX5_canMoveFrom_X2_canMove
theorem dX5_canMoveFrom_0 : decode cX5_canMoveFrom 0 = .ok (.aload_n 0, 1) := by decide +kernel
theorem dX5_canMoveFrom_1 : decode cX5_canMoveFrom 1 = .ok (.aload_n 0, 1) := by decide +kernel
theorem dX5_canMoveFrom_2 : decode cX5_canMoveFrom 2 = .ok (.getfield 59, 3) := by decide +kernel
theorem dX5_canMoveFrom_5 : decode cX5_canMoveFrom 5 = .ok (.invokevirtual 66, 3) := by decide +kernel
theorem dX5_canMoveFrom_8 : decode cX5_canMoveFrom 8 = .ok (.getfield 70, 3) := by decide +kernel
theorem dX5_canMoveFrom_11 : decode cX5_canMoveFrom 11 = .ok (.aload_n 0, 1) := by decide +kernel
theorem dX5_canMoveFrom_12 : decode cX5_canMoveFrom 12 = .ok (.iconst 1, 1) := by decide +kernel
theorem dX5_canMoveFrom_13 : decode cX5_canMoveFrom 13 = .ok (.aload_n 0, 1) := by decide +kernel
theorem dX5_canMoveFrom_14 : decode cX5_canMoveFrom 14 = .ok (.getfield 59, 3) := by decide +kernel
theorem dX5_canMoveFrom_17 : decode cX5_canMoveFrom 17 = .ok (.isub, 1) := by decide +kernel
theorem dX5_canMoveFrom_18 : decode cX5_canMoveFrom 18 = .ok (.invokevirtual 66, 3) := by decide +kernel
theorem dX5_canMoveFrom_21 : decode cX5_canMoveFrom 21 = .ok (.getfield 70, 3) := by decide +kernel
theorem dX5_canMoveFrom_24 : decode cX5_canMoveFrom 24 = .ok (.iload_n 1, 1) := by decide +kernel
theorem dX5_canMoveFrom_25 : decode cX5_canMoveFrom 25 = .ok (.aload_n 0, 1) := by decide +kernel
theorem dX5_canMoveFrom_26 : decode cX5_canMoveFrom 26 = .ok (.getfield 46, 3) := by decide +kernel
theorem dX5_canMoveFrom_29 : decode cX5_canMoveFrom 29 = .ok (.invokestatic 142, 3) := by decide +kernel
theorem dX5_canMoveFrom_32 : decode cX5_canMoveFrom 32 = .ok (.ireturn, 1) := by decide +kernel
set_option maxRecDepth 20000 in
theorem ggX5_countMoves_X5_sideOf : GoodIn wsX5_countMoves wsX5_sideOf := goodIn_r _ [7, 8, 9, 21, 22, 23, 24, 25, 26, 27, 28, 29] (by decide +kernel) (by decide +kernel)
set_option maxRecDepth 20000 in
theorem gX5_countMoves_X5_sideOf : GoodIn wsX5_countMoves (wsV RX5 66 RX5 yX5_sideOf wsX5_sideOf) := goodIn_app (goodIn_of _ (by decide +kernel)) ggX5_countMoves_X5_sideOf
set_option maxRecDepth 20000 in
theorem ggX5_countMoves_X2_canMove : GoodIn wsX5_countMoves wsX2_canMove := goodIn_r _ [13, 14, 15, 12, 16, 17, 18, 19, 20] (by decide +kernel) (by decide +kernel)
set_option maxRecDepth 20000 in
theorem gX5_countMoves_X2_canMove : GoodIn wsX5_countMoves (va_wsS RX5 142 yX2_canMove wsX2_canMove) := goodIn_app (goodIn_of _ (by decide +kernel)) ggX5_countMoves_X2_canMove
theorem dX5_countMoves_0 : decode cX5_countMoves 0 = .ok (.aload_n 0, 1) := by decide +kernel
theorem dX5_countMoves_1 : decode cX5_countMoves 1 = .ok (.aload_n 0, 1) := by decide +kernel
theorem dX5_countMoves_2 : decode cX5_countMoves 2 = .ok (.getfield 59, 3) := by decide +kernel
theorem dX5_countMoves_5 : decode cX5_countMoves 5 = .ok (.invokevirtual 66, 3) := by decide +kernel
theorem dX5_countMoves_8 : decode cX5_countMoves 8 = .ok (.getfield 70, 3) := by decide +kernel
theorem dX5_countMoves_11 : decode cX5_countMoves 11 = .ok (.lstore_n 2, 1) := by decide +kernel
theorem dX5_countMoves_12 : decode cX5_countMoves 12 = .ok (.aload_n 0, 1) := by decide +kernel
theorem dX5_countMoves_13 : decode cX5_countMoves 13 = .ok (.iconst 1, 1) := by decide +kernel
theorem dX5_countMoves_14 : decode cX5_countMoves 14 = .ok (.aload_n 0, 1) := by decide +kernel
theorem dX5_countMoves_15 : decode cX5_countMoves 15 = .ok (.getfield 59, 3) := by decide +kernel
theorem dX5_countMoves_18 : decode cX5_countMoves 18 = .ok (.isub, 1) := by decide +kernel
theorem dX5_countMoves_19 : decode cX5_countMoves 19 = .ok (.invokevirtual 66, 3) := by decide +kernel
theorem dX5_countMoves_22 : decode cX5_countMoves 22 = .ok (.getfield 70, 3) := by decide +kernel
theorem dX5_countMoves_25 : decode cX5_countMoves 25 = .ok (.lstore 4, 2) := by decide +kernel
theorem dX5_countMoves_27 : decode cX5_countMoves 27 = .ok (.iconst 0, 1) := by decide +kernel
theorem dX5_countMoves_28 : decode cX5_countMoves 28 = .ok (.istore 6, 2) := by decide +kernel
theorem dX5_countMoves_30 : decode cX5_countMoves 30 = .ok (.iconst 0, 1) := by decide +kernel
theorem dX5_countMoves_31 : decode cX5_countMoves 31 = .ok (.istore 7, 2) := by decide +kernel
theorem dX5_countMoves_33 : decode cX5_countMoves 33 = .ok (.iload 7, 2) := by decide +kernel
theorem dX5_countMoves_35 : decode cX5_countMoves 35 = .ok (.bipush 14, 2) := by decide +kernel
theorem dX5_countMoves_37 : decode cX5_countMoves 37 = .ok (.if_icmp .gt 24, 3) := by decide +kernel
theorem dX5_countMoves_40 : decode cX5_countMoves 40 = .ok (.lload_n 2, 1) := by decide +kernel
theorem dX5_countMoves_41 : decode cX5_countMoves 41 = .ok (.lload 4, 2) := by decide +kernel
theorem dX5_countMoves_43 : decode cX5_countMoves 43 = .ok (.iload 7, 2) := by decide +kernel
theorem dX5_countMoves_45 : decode cX5_countMoves 45 = .ok (.iload_n 1, 1) := by decide +kernel
theorem dX5_countMoves_46 : decode cX5_countMoves 46 = .ok (.invokestatic 142, 3) := by decide +kernel
theorem dX5_countMoves_49 : decode cX5_countMoves 49 = .ok (.ifCond .eq 6, 3) := by decide +kernel
theorem dX5_countMoves_52 : decode cX5_countMoves 52 = .ok (.iinc 6 1, 3) := by decide +kernel
theorem dX5_countMoves_55 : decode cX5_countMoves 55 = .ok (.iinc 7 1, 3) := by decide +kernel
theorem dX5_countMoves_58 : decode cX5_countMoves 58 = .ok (.goto (-25), 3) := by decide +kernel
theorem dX5_countMoves_61 : decode cX5_countMoves 61 = .ok (.iload 6, 2) := by decide +kernel
theorem dX5_countMoves_63 : decode cX5_countMoves 63 = .ok (.ireturn, 1) := by decide +kernel
set_option maxRecDepth 20000 in
theorem ggX5_leadOfTurn_X5_sideOf : GoodIn wsX5_leadOfTurn wsX5_sideOf := goodIn_r _ [7, 8, 9, 17, 18, 19, 20, 21, 22, 23, 24, 25] (by decide +kernel) (by decide +kernel)
set_option maxRecDepth 20000 in
theorem gX5_leadOfTurn_X5_sideOf : GoodIn wsX5_leadOfTurn (wsV RX5 66 RX5 yX5_sideOf wsX5_sideOf) := goodIn_app (goodIn_of _ (by decide +kernel)) ggX5_leadOfTurn_X5_sideOf
set_option maxRecDepth 20000 in
theorem ggX5_leadOfTurn_X2_sumOfPlaces : GoodIn wsX5_leadOfTurn wsX2_sumOfPlaces := goodIn_r _ [13, 14, 15, 12, 16] (by decide +kernel) (by decide +kernel)
set_option maxRecDepth 20000 in
theorem gX5_leadOfTurn_X2_sumOfPlaces : GoodIn wsX5_leadOfTurn (va_wsS RX5 98 yX2_sumOfPlaces wsX2_sumOfPlaces) := goodIn_app (goodIn_of _ (by decide +kernel)) ggX5_leadOfTurn_X2_sumOfPlaces
theorem dX5_leadOfTurn_0 : decode cX5_leadOfTurn 0 = .ok (.aload_n 0, 1) := by decide +kernel
theorem dX5_leadOfTurn_1 : decode cX5_leadOfTurn 1 = .ok (.aload_n 0, 1) := by decide +kernel
theorem dX5_leadOfTurn_2 : decode cX5_leadOfTurn 2 = .ok (.getfield 59, 3) := by decide +kernel
theorem dX5_leadOfTurn_5 : decode cX5_leadOfTurn 5 = .ok (.invokevirtual 66, 3) := by decide +kernel
theorem dX5_leadOfTurn_8 : decode cX5_leadOfTurn 8 = .ok (.getfield 70, 3) := by decide +kernel
theorem dX5_leadOfTurn_11 : decode cX5_leadOfTurn 11 = .ok (.invokestatic 98, 3) := by decide +kernel
theorem dX5_leadOfTurn_14 : decode cX5_leadOfTurn 14 = .ok (.aload_n 0, 1) := by decide +kernel
theorem dX5_leadOfTurn_15 : decode cX5_leadOfTurn 15 = .ok (.iconst 1, 1) := by decide +kernel
theorem dX5_leadOfTurn_16 : decode cX5_leadOfTurn 16 = .ok (.aload_n 0, 1) := by decide +kernel
theorem dX5_leadOfTurn_17 : decode cX5_leadOfTurn 17 = .ok (.getfield 59, 3) := by decide +kernel
theorem dX5_leadOfTurn_20 : decode cX5_leadOfTurn 20 = .ok (.isub, 1) := by decide +kernel
theorem dX5_leadOfTurn_21 : decode cX5_leadOfTurn 21 = .ok (.invokevirtual 66, 3) := by decide +kernel
theorem dX5_leadOfTurn_24 : decode cX5_leadOfTurn 24 = .ok (.getfield 70, 3) := by decide +kernel
theorem dX5_leadOfTurn_27 : decode cX5_leadOfTurn 27 = .ok (.invokestatic 98, 3) := by decide +kernel
theorem dX5_leadOfTurn_30 : decode cX5_leadOfTurn 30 = .ok (.isub, 1) := by decide +kernel
theorem dX5_leadOfTurn_31 : decode cX5_leadOfTurn 31 = .ok (.ireturn, 1) := by decide +kernel
set_option maxRecDepth 20000 in
theorem ggX5_worthForTurn_X1_fillUpTo : GoodIn wsX5_worthForTurn wsX1_fillUpTo := goodIn_r _ [11, 12, 13, 14, 15, 16, 17, 18, 19, 10, 20, 21, 22, 23, 24, 25, 26, 27, 28, 29, 30, 31, 32, 33, 34, 35, 36, 37, 38, 39, 40, 41, 42, 43, 44, 45, 46, 47, 48, 49, 50, 51, 128, 129] (by decide +kernel) (by decide +kernel)
set_option maxRecDepth 20000 in
theorem gX5_worthForTurn_X1_fillUpTo : GoodIn wsX5_worthForTurn (wsV RX5 122 RX1 yX1_fillUpTo wsX1_fillUpTo) := goodIn_app (goodIn_of _ (by decide +kernel)) ggX5_worthForTurn_X1_fillUpTo
set_option maxRecDepth 20000 in
theorem ggX5_worthForTurn_X5_sideOf : GoodIn wsX5_worthForTurn wsX5_sideOf := goodIn_r _ [56, 57, 58, 117, 118, 119, 120, 121, 122, 123, 124, 125] (by decide +kernel) (by decide +kernel)
set_option maxRecDepth 20000 in
theorem gX5_worthForTurn_X5_sideOf : GoodIn wsX5_worthForTurn (wsV RX5 66 RX5 yX5_sideOf wsX5_sideOf) := goodIn_app (goodIn_of _ (by decide +kernel)) ggX5_worthForTurn_X5_sideOf
set_option maxRecDepth 20000 in
theorem ggX5_worthForTurn_X5_leadOfTurn : GoodIn wsX5_worthForTurn wsX5_leadOfTurn := goodIn_r _ [62, 2, 5, 52, 53, 54, 55, 56, 57, 58, 63, 64, 65, 66, 67, 68, 69, 117, 118, 119, 120, 121, 122, 123, 124, 125, 126, 127] (by decide +kernel) (by decide +kernel)
set_option maxRecDepth 20000 in
theorem gX5_worthForTurn_X5_leadOfTurn : GoodIn wsX5_worthForTurn (wsV RX5 146 RX5 yX5_leadOfTurn wsX5_leadOfTurn) := goodIn_app (goodIn_of _ (by decide +kernel)) ggX5_worthForTurn_X5_leadOfTurn
set_option maxRecDepth 20000 in
theorem ggX5_worthForTurn_X5_worthToThrow : GoodIn wsX5_worthForTurn wsX5_worthToThrow := goodIn_r _ [73, 74, 75, 76, 77, 55, 78, 79, 4, 80, 81, 82, 83, 14, 84, 85, 86, 13, 15, 87, 68, 65, 69, 88, 89, 90, 67, 91, 28, 29, 10, 30, 31, 21, 92, 33, 34, 35, 36, 93, 94, 95, 96, 3, 97, 98, 99, 100, 101, 102, 103, 104, 105, 106, 107, 47, 44, 48, 108, 50, 51, 70, 71, 72, 109, 110, 111, 112, 113, 43, 45, 114, 115, 116, 117, 118, 119, 120, 121, 122, 123, 124, 125, 128, 129] (by decide +kernel) (by decide +kernel)
set_option maxRecDepth 20000 in
theorem gX5_worthForTurn_X5_worthToThrow : GoodIn wsX5_worthForTurn (wsV RX5 150 RX5 yX5_worthToThrow wsX5_worthToThrow) := goodIn_app (goodIn_of _ (by decide +kernel)) ggX5_worthForTurn_X5_worthToThrow
set_option maxRecDepth 20000 in
theorem ggX5_worthForTurn_X5_worthBehindThrow : GoodIn wsX5_worthForTurn wsX5_worthBehindThrow := goodIn_r _ [109, 82, 83, 14, 84, 3, 110, 111, 65, 112, 67, 68, 69, 113, 43, 44, 45, 114, 115, 116, 55, 70, 71, 72, 96, 97, 98, 99, 100, 101, 102, 103, 104, 105, 106, 107, 47, 48, 108, 50, 51, 73, 74, 75, 76, 77, 78, 79, 4, 80, 81, 85, 86, 13, 15, 87, 88, 89, 90, 91, 28, 29, 10, 30, 31, 21, 92, 33, 34, 35, 36, 93, 94, 95, 117, 118, 119, 120, 121, 122, 123, 124, 125, 128, 129] (by decide +kernel) (by decide +kernel)
set_option maxRecDepth 20000 in
theorem gX5_worthForTurn_X5_worthBehindThrow : GoodIn wsX5_worthForTurn (wsV RX5 154 RX5 yX5_worthBehindThrow wsX5_worthBehindThrow) := goodIn_app (goodIn_of _ (by decide +kernel)) ggX5_worthForTurn_X5_worthBehindThrow
theorem dX5_worthForTurn_0 : decode cX5_worthForTurn 0 = .ok (.aload_n 0, 1) := by decide +kernel
theorem dX5_worthForTurn_1 : decode cX5_worthForTurn 1 = .ok (.getfield 42, 3) := by decide +kernel
theorem dX5_worthForTurn_4 : decode cX5_worthForTurn 4 = .ok (.iconst (-1), 1) := by decide +kernel
theorem dX5_worthForTurn_5 : decode cX5_worthForTurn 5 = .ok (.if_icmp .eq 21, 3) := by decide +kernel
theorem dX5_worthForTurn_8 : decode cX5_worthForTurn 8 = .ok (.aload_n 0, 1) := by decide +kernel
theorem dX5_worthForTurn_9 : decode cX5_worthForTurn 9 = .ok (.getfield 42, 3) := by decide +kernel
theorem dX5_worthForTurn_12 : decode cX5_worthForTurn 12 = .ok (.aload_n 0, 1) := by decide +kernel
theorem dX5_worthForTurn_13 : decode cX5_worthForTurn 13 = .ok (.getfield 59, 3) := by decide +kernel
theorem dX5_worthForTurn_16 : decode cX5_worthForTurn 16 = .ok (.if_icmp .ne 8, 3) := by decide +kernel
theorem dX5_worthForTurn_19 : decode cX5_worthForTurn 19 = .ok (.ldc 105, 2) := by decide +kernel
theorem dX5_worthForTurn_21 : decode cX5_worthForTurn 21 = .ok (.goto 4, 3) := by decide +kernel
theorem dX5_worthForTurn_24 : decode cX5_worthForTurn 24 = .ok (.iconst 0, 1) := by decide +kernel
theorem dX5_worthForTurn_25 : decode cX5_worthForTurn 25 = .ok (.ireturn, 1) := by decide +kernel
theorem dX5_worthForTurn_26 : decode cX5_worthForTurn 26 = .ok (.aload_n 0, 1) := by decide +kernel
theorem dX5_worthForTurn_27 : decode cX5_worthForTurn 27 = .ok (.getfield 22, 3) := by decide +kernel
theorem dX5_worthForTurn_30 : decode cX5_worthForTurn 30 = .ok (.bipush 40, 2) := by decide +kernel
theorem dX5_worthForTurn_32 : decode cX5_worthForTurn 32 = .ok (.invokevirtual 122, 3) := by decide +kernel
theorem dX5_worthForTurn_35 : decode cX5_worthForTurn 35 = .ok (.aload_n 0, 1) := by decide +kernel
theorem dX5_worthForTurn_36 : decode cX5_worthForTurn 36 = .ok (.aload_n 0, 1) := by decide +kernel
theorem dX5_worthForTurn_37 : decode cX5_worthForTurn 37 = .ok (.getfield 59, 3) := by decide +kernel
theorem dX5_worthForTurn_40 : decode cX5_worthForTurn 40 = .ok (.invokevirtual 66, 3) := by decide +kernel
theorem dX5_worthForTurn_43 : decode cX5_worthForTurn 43 = .ok (.getfield 70, 3) := by decide +kernel
theorem dX5_worthForTurn_46 : decode cX5_worthForTurn 46 = .ok (.lstore_n 2, 1) := by decide +kernel
theorem dX5_worthForTurn_47 : decode cX5_worthForTurn 47 = .ok (.aload_n 0, 1) := by decide +kernel
theorem dX5_worthForTurn_48 : decode cX5_worthForTurn 48 = .ok (.iconst 1, 1) := by decide +kernel
theorem dX5_worthForTurn_49 : decode cX5_worthForTurn 49 = .ok (.aload_n 0, 1) := by decide +kernel
theorem dX5_worthForTurn_50 : decode cX5_worthForTurn 50 = .ok (.getfield 59, 3) := by decide +kernel
theorem dX5_worthForTurn_53 : decode cX5_worthForTurn 53 = .ok (.isub, 1) := by decide +kernel
theorem dX5_worthForTurn_54 : decode cX5_worthForTurn 54 = .ok (.invokevirtual 66, 3) := by decide +kernel
theorem dX5_worthForTurn_57 : decode cX5_worthForTurn 57 = .ok (.getfield 70, 3) := by decide +kernel
theorem dX5_worthForTurn_60 : decode cX5_worthForTurn 60 = .ok (.lstore 4, 2) := by decide +kernel
theorem dX5_worthForTurn_62 : decode cX5_worthForTurn 62 = .ok (.aload_n 0, 1) := by decide +kernel
theorem dX5_worthForTurn_63 : decode cX5_worthForTurn 63 = .ok (.getfield 46, 3) := by decide +kernel
theorem dX5_worthForTurn_66 : decode cX5_worthForTurn 66 = .ok (.iconst (-1), 1) := by decide +kernel
theorem dX5_worthForTurn_67 : decode cX5_worthForTurn 67 = .ok (.if_icmp .ne 16, 3) := by decide +kernel
theorem dX5_worthForTurn_70 : decode cX5_worthForTurn 70 = .ok (.aload_n 0, 1) := by decide +kernel
theorem dX5_worthForTurn_71 : decode cX5_worthForTurn 71 = .ok (.lload_n 2, 1) := by decide +kernel
theorem dX5_worthForTurn_72 : decode cX5_worthForTurn 72 = .ok (.lload 4, 2) := by decide +kernel
theorem dX5_worthForTurn_74 : decode cX5_worthForTurn 74 = .ok (.aload_n 0, 1) := by decide +kernel
theorem dX5_worthForTurn_75 : decode cX5_worthForTurn 75 = .ok (.invokevirtual 146, 3) := by decide +kernel
theorem dX5_worthForTurn_78 : decode cX5_worthForTurn 78 = .ok (.iload_n 1, 1) := by decide +kernel
theorem dX5_worthForTurn_79 : decode cX5_worthForTurn 79 = .ok (.invokevirtual 150, 3) := by decide +kernel
theorem dX5_worthForTurn_82 : decode cX5_worthForTurn 82 = .ok (.ireturn, 1) := by decide +kernel
theorem dX5_worthForTurn_83 : decode cX5_worthForTurn 83 = .ok (.aload_n 0, 1) := by decide +kernel
theorem dX5_worthForTurn_84 : decode cX5_worthForTurn 84 = .ok (.lload_n 2, 1) := by decide +kernel
theorem dX5_worthForTurn_85 : decode cX5_worthForTurn 85 = .ok (.lload 4, 2) := by decide +kernel
theorem dX5_worthForTurn_87 : decode cX5_worthForTurn 87 = .ok (.aload_n 0, 1) := by decide +kernel
theorem dX5_worthForTurn_88 : decode cX5_worthForTurn 88 = .ok (.invokevirtual 146, 3) := by decide +kernel
theorem dX5_worthForTurn_91 : decode cX5_worthForTurn 91 = .ok (.aload_n 0, 1) := by decide +kernel
theorem dX5_worthForTurn_92 : decode cX5_worthForTurn 92 = .ok (.getfield 46, 3) := by decide +kernel
theorem dX5_worthForTurn_95 : decode cX5_worthForTurn 95 = .ok (.iload_n 1, 1) := by decide +kernel
theorem dX5_worthForTurn_96 : decode cX5_worthForTurn 96 = .ok (.invokevirtual 154, 3) := by decide +kernel
theorem dX5_worthForTurn_99 : decode cX5_worthForTurn 99 = .ok (.ireturn, 1) := by decide +kernel
set_option maxRecDepth 20000 in
theorem ggX5_noteWorthsBehind_X1_fillUpTo : GoodIn wsX5_noteWorthsBehind wsX1_fillUpTo := goodIn_r _ [10, 11, 12, 13, 14, 15, 16, 17, 18, 9, 19, 20, 21, 22, 23, 24, 25, 26, 27, 28, 29, 30, 31, 32, 33, 34, 35, 36, 37, 38, 39, 40, 41, 42, 43, 44, 45, 46, 47, 48, 49, 50, 128, 129] (by decide +kernel) (by decide +kernel)
set_option maxRecDepth 20000 in
theorem gX5_noteWorthsBehind_X1_fillUpTo : GoodIn wsX5_noteWorthsBehind (wsV RX5 122 RX1 yX1_fillUpTo wsX1_fillUpTo) := goodIn_app (goodIn_of _ (by decide +kernel)) ggX5_noteWorthsBehind_X1_fillUpTo
set_option maxRecDepth 20000 in
theorem ggX5_noteWorthsBehind_X5_sideOf : GoodIn wsX5_noteWorthsBehind wsX5_sideOf := goodIn_r _ [55, 56, 57, 117, 118, 119, 120, 121, 122, 123, 124, 125] (by decide +kernel) (by decide +kernel)
set_option maxRecDepth 20000 in
theorem gX5_noteWorthsBehind_X5_sideOf : GoodIn wsX5_noteWorthsBehind (wsV RX5 66 RX5 yX5_sideOf wsX5_sideOf) := goodIn_app (goodIn_of _ (by decide +kernel)) ggX5_noteWorthsBehind_X5_sideOf
set_option maxRecDepth 20000 in
theorem ggX5_noteWorthsBehind_X5_leadOfTurn : GoodIn wsX5_noteWorthsBehind wsX5_leadOfTurn := goodIn_r _ [61, 2, 3, 51, 52, 53, 54, 55, 56, 57, 62, 63, 64, 65, 66, 67, 68, 117, 118, 119, 120, 121, 122, 123, 124, 125, 126, 127] (by decide +kernel) (by decide +kernel)
set_option maxRecDepth 20000 in
theorem gX5_noteWorthsBehind_X5_leadOfTurn : GoodIn wsX5_noteWorthsBehind (wsV RX5 146 RX5 yX5_leadOfTurn wsX5_leadOfTurn) := goodIn_app (goodIn_of _ (by decide +kernel)) ggX5_noteWorthsBehind_X5_leadOfTurn
set_option maxRecDepth 20000 in
theorem ggX5_noteWorthsBehind_X2_canMove : GoodIn wsX5_noteWorthsBehind wsX2_canMove := goodIn_r _ [71, 66, 67, 64, 68, 72, 42, 43, 44] (by decide +kernel) (by decide +kernel)
set_option maxRecDepth 20000 in
theorem gX5_noteWorthsBehind_X2_canMove : GoodIn wsX5_noteWorthsBehind (va_wsS RX5 142 yX2_canMove wsX2_canMove) := goodIn_app (goodIn_of _ (by decide +kernel)) ggX5_noteWorthsBehind_X2_canMove
set_option maxRecDepth 20000 in
theorem ggX5_noteWorthsBehind_X5_worthBehindMove : GoodIn wsX5_noteWorthsBehind wsX5_worthBehindMove := goodIn_r _ [76, 77, 78, 79, 64, 80, 81, 82, 83, 84, 85, 86, 87, 88, 46, 43, 47, 66, 67, 68, 89, 49, 50, 90, 91, 92, 54, 93, 94, 95, 13, 96, 69, 70, 71, 72, 42, 44, 73, 74, 75, 97, 98, 99, 100, 101, 102, 103, 1, 104, 105, 106, 107, 12, 14, 108, 109, 110, 111, 112, 27, 28, 9, 29, 30, 20, 113, 32, 33, 34, 35, 114, 115, 116, 117, 118, 119, 120, 121, 122, 123, 124, 125, 128, 129] (by decide +kernel) (by decide +kernel)
set_option maxRecDepth 20000 in
theorem gX5_noteWorthsBehind_X5_worthBehindMove : GoodIn wsX5_noteWorthsBehind (wsV RX5 158 RX5 yX5_worthBehindMove wsX5_worthBehindMove) := goodIn_app (goodIn_of _ (by decide +kernel)) ggX5_noteWorthsBehind_X5_worthBehindMove
theorem dX5_noteWorthsBehind_0 : decode cX5_noteWorthsBehind 0 = .ok (.aload_n 0, 1) := by decide +kernel
theorem dX5_noteWorthsBehind_1 : decode cX5_noteWorthsBehind 1 = .ok (.getfield 22, 3) := by decide +kernel
theorem dX5_noteWorthsBehind_4 : decode cX5_noteWorthsBehind 4 = .ok (.bipush 40, 2) := by decide +kernel
theorem dX5_noteWorthsBehind_6 : decode cX5_noteWorthsBehind 6 = .ok (.invokevirtual 122, 3) := by decide +kernel
theorem dX5_noteWorthsBehind_9 : decode cX5_noteWorthsBehind 9 = .ok (.aload_n 0, 1) := by decide +kernel
theorem dX5_noteWorthsBehind_10 : decode cX5_noteWorthsBehind 10 = .ok (.aload_n 0, 1) := by decide +kernel
theorem dX5_noteWorthsBehind_11 : decode cX5_noteWorthsBehind 11 = .ok (.getfield 59, 3) := by decide +kernel
theorem dX5_noteWorthsBehind_14 : decode cX5_noteWorthsBehind 14 = .ok (.invokevirtual 66, 3) := by decide +kernel
theorem dX5_noteWorthsBehind_17 : decode cX5_noteWorthsBehind 17 = .ok (.getfield 70, 3) := by decide +kernel
theorem dX5_noteWorthsBehind_20 : decode cX5_noteWorthsBehind 20 = .ok (.lstore_n 2, 1) := by decide +kernel
theorem dX5_noteWorthsBehind_21 : decode cX5_noteWorthsBehind 21 = .ok (.aload_n 0, 1) := by decide +kernel
theorem dX5_noteWorthsBehind_22 : decode cX5_noteWorthsBehind 22 = .ok (.iconst 1, 1) := by decide +kernel
theorem dX5_noteWorthsBehind_23 : decode cX5_noteWorthsBehind 23 = .ok (.aload_n 0, 1) := by decide +kernel
theorem dX5_noteWorthsBehind_24 : decode cX5_noteWorthsBehind 24 = .ok (.getfield 59, 3) := by decide +kernel
theorem dX5_noteWorthsBehind_27 : decode cX5_noteWorthsBehind 27 = .ok (.isub, 1) := by decide +kernel
theorem dX5_noteWorthsBehind_28 : decode cX5_noteWorthsBehind 28 = .ok (.invokevirtual 66, 3) := by decide +kernel
theorem dX5_noteWorthsBehind_31 : decode cX5_noteWorthsBehind 31 = .ok (.getfield 70, 3) := by decide +kernel
theorem dX5_noteWorthsBehind_34 : decode cX5_noteWorthsBehind 34 = .ok (.lstore 4, 2) := by decide +kernel
theorem dX5_noteWorthsBehind_36 : decode cX5_noteWorthsBehind 36 = .ok (.aload_n 0, 1) := by decide +kernel
theorem dX5_noteWorthsBehind_37 : decode cX5_noteWorthsBehind 37 = .ok (.invokevirtual 146, 3) := by decide +kernel
theorem dX5_noteWorthsBehind_40 : decode cX5_noteWorthsBehind 40 = .ok (.istore 6, 2) := by decide +kernel
theorem dX5_noteWorthsBehind_42 : decode cX5_noteWorthsBehind 42 = .ok (.iconst 0, 1) := by decide +kernel
theorem dX5_noteWorthsBehind_43 : decode cX5_noteWorthsBehind 43 = .ok (.istore 7, 2) := by decide +kernel
theorem dX5_noteWorthsBehind_45 : decode cX5_noteWorthsBehind 45 = .ok (.iload 7, 2) := by decide +kernel
theorem dX5_noteWorthsBehind_47 : decode cX5_noteWorthsBehind 47 = .ok (.aload_n 0, 1) := by decide +kernel
theorem dX5_noteWorthsBehind_48 : decode cX5_noteWorthsBehind 48 = .ok (.getfield 28, 3) := by decide +kernel
theorem dX5_noteWorthsBehind_51 : decode cX5_noteWorthsBehind 51 = .ok (.arraylength, 1) := by decide +kernel
theorem dX5_noteWorthsBehind_52 : decode cX5_noteWorthsBehind 52 = .ok (.if_icmp .ge 51, 3) := by decide +kernel
theorem dX5_noteWorthsBehind_55 : decode cX5_noteWorthsBehind 55 = .ok (.aload_n 0, 1) := by decide +kernel
theorem dX5_noteWorthsBehind_56 : decode cX5_noteWorthsBehind 56 = .ok (.getfield 28, 3) := by decide +kernel
theorem dX5_noteWorthsBehind_59 : decode cX5_noteWorthsBehind 59 = .ok (.iload 7, 2) := by decide +kernel
theorem dX5_noteWorthsBehind_61 : decode cX5_noteWorthsBehind 61 = .ok (.lload_n 2, 1) := by decide +kernel
theorem dX5_noteWorthsBehind_62 : decode cX5_noteWorthsBehind 62 = .ok (.lload 4, 2) := by decide +kernel
theorem dX5_noteWorthsBehind_64 : decode cX5_noteWorthsBehind 64 = .ok (.iload 7, 2) := by decide +kernel
theorem dX5_noteWorthsBehind_66 : decode cX5_noteWorthsBehind 66 = .ok (.aload_n 0, 1) := by decide +kernel
theorem dX5_noteWorthsBehind_67 : decode cX5_noteWorthsBehind 67 = .ok (.getfield 46, 3) := by decide +kernel
theorem dX5_noteWorthsBehind_70 : decode cX5_noteWorthsBehind 70 = .ok (.invokestatic 142, 3) := by decide +kernel
theorem dX5_noteWorthsBehind_73 : decode cX5_noteWorthsBehind 73 = .ok (.ifCond .eq 22, 3) := by decide +kernel
theorem dX5_noteWorthsBehind_76 : decode cX5_noteWorthsBehind 76 = .ok (.aload_n 0, 1) := by decide +kernel
theorem dX5_noteWorthsBehind_77 : decode cX5_noteWorthsBehind 77 = .ok (.lload_n 2, 1) := by decide +kernel
theorem dX5_noteWorthsBehind_78 : decode cX5_noteWorthsBehind 78 = .ok (.lload 4, 2) := by decide +kernel
theorem dX5_noteWorthsBehind_80 : decode cX5_noteWorthsBehind 80 = .ok (.iload 6, 2) := by decide +kernel
theorem dX5_noteWorthsBehind_82 : decode cX5_noteWorthsBehind 82 = .ok (.iload 7, 2) := by decide +kernel
theorem dX5_noteWorthsBehind_84 : decode cX5_noteWorthsBehind 84 = .ok (.aload_n 0, 1) := by decide +kernel
theorem dX5_noteWorthsBehind_85 : decode cX5_noteWorthsBehind 85 = .ok (.getfield 46, 3) := by decide +kernel
theorem dX5_noteWorthsBehind_88 : decode cX5_noteWorthsBehind 88 = .ok (.iload_n 1, 1) := by decide +kernel
theorem dX5_noteWorthsBehind_89 : decode cX5_noteWorthsBehind 89 = .ok (.invokevirtual 158, 3) := by decide +kernel
theorem dX5_noteWorthsBehind_92 : decode cX5_noteWorthsBehind 92 = .ok (.goto 4, 3) := by decide +kernel
theorem dX5_noteWorthsBehind_95 : decode cX5_noteWorthsBehind 95 = .ok (.iconst (-1), 1) := by decide +kernel
theorem dX5_noteWorthsBehind_96 : decode cX5_noteWorthsBehind 96 = .ok (.iastore, 1) := by decide +kernel
theorem dX5_noteWorthsBehind_97 : decode cX5_noteWorthsBehind 97 = .ok (.iinc 7 1, 3) := by decide +kernel
theorem dX5_noteWorthsBehind_100 : decode cX5_noteWorthsBehind 100 = .ok (.goto (-55), 3) := by decide +kernel
theorem dX5_noteWorthsBehind_103 : decode cX5_noteWorthsBehind 103 = .ok (.return_, 1) := by decide +kernel
theorem dX5_countBetter_0 : decode cX5_countBetter 0 = .ok (.iconst 0, 1) := by decide +kernel
theorem dX5_countBetter_1 : decode cX5_countBetter 1 = .ok (.istore_n 3, 1) := by decide +kernel
theorem dX5_countBetter_2 : decode cX5_countBetter 2 = .ok (.iconst 0, 1) := by decide +kernel
theorem dX5_countBetter_3 : decode cX5_countBetter 3 = .ok (.istore 4, 2) := by decide +kernel
theorem dX5_countBetter_5 : decode cX5_countBetter 5 = .ok (.iload 4, 2) := by decide +kernel
theorem dX5_countBetter_7 : decode cX5_countBetter 7 = .ok (.aload_n 0, 1) := by decide +kernel
theorem dX5_countBetter_8 : decode cX5_countBetter 8 = .ok (.getfield 28, 3) := by decide +kernel
theorem dX5_countBetter_11 : decode cX5_countBetter 11 = .ok (.arraylength, 1) := by decide +kernel
theorem dX5_countBetter_12 : decode cX5_countBetter 12 = .ok (.if_icmp .ge 40, 3) := by decide +kernel
theorem dX5_countBetter_15 : decode cX5_countBetter 15 = .ok (.aload_n 0, 1) := by decide +kernel
theorem dX5_countBetter_16 : decode cX5_countBetter 16 = .ok (.getfield 28, 3) := by decide +kernel
theorem dX5_countBetter_19 : decode cX5_countBetter 19 = .ok (.iload 4, 2) := by decide +kernel
theorem dX5_countBetter_21 : decode cX5_countBetter 21 = .ok (.iaload, 1) := by decide +kernel
theorem dX5_countBetter_22 : decode cX5_countBetter 22 = .ok (.iload_n 2, 1) := by decide +kernel
theorem dX5_countBetter_23 : decode cX5_countBetter 23 = .ok (.if_icmp .gt 20, 3) := by decide +kernel
theorem dX5_countBetter_26 : decode cX5_countBetter 26 = .ok (.aload_n 0, 1) := by decide +kernel
theorem dX5_countBetter_27 : decode cX5_countBetter 27 = .ok (.getfield 28, 3) := by decide +kernel
theorem dX5_countBetter_30 : decode cX5_countBetter 30 = .ok (.iload 4, 2) := by decide +kernel
theorem dX5_countBetter_32 : decode cX5_countBetter 32 = .ok (.iaload, 1) := by decide +kernel
theorem dX5_countBetter_33 : decode cX5_countBetter 33 = .ok (.iload_n 2, 1) := by decide +kernel
theorem dX5_countBetter_34 : decode cX5_countBetter 34 = .ok (.if_icmp .ne 12, 3) := by decide +kernel
theorem dX5_countBetter_37 : decode cX5_countBetter 37 = .ok (.iload 4, 2) := by decide +kernel
theorem dX5_countBetter_39 : decode cX5_countBetter 39 = .ok (.iload_n 1, 1) := by decide +kernel
theorem dX5_countBetter_40 : decode cX5_countBetter 40 = .ok (.if_icmp .ge 6, 3) := by decide +kernel
theorem dX5_countBetter_43 : decode cX5_countBetter 43 = .ok (.iinc 3 1, 3) := by decide +kernel
theorem dX5_countBetter_46 : decode cX5_countBetter 46 = .ok (.iinc 4 1, 3) := by decide +kernel
theorem dX5_countBetter_49 : decode cX5_countBetter 49 = .ok (.goto (-44), 3) := by decide +kernel
theorem dX5_countBetter_52 : decode cX5_countBetter 52 = .ok (.iload_n 3, 1) := by decide +kernel
theorem dX5_countBetter_53 : decode cX5_countBetter 53 = .ok (.ireturn, 1) := by decide +kernel
set_option maxRecDepth 20000 in
theorem ggX5_worthToThrow_X5_worthAtOnce : GoodIn wsX5_worthToThrow wsX5_worthAtOnce := goodIn_r _ [6, 7, 8, 9, 10, 11, 12, 13, 14, 15, 16, 17, 18, 19, 20, 21, 22, 23, 24, 25, 26, 27, 28, 29, 30, 31, 32, 33, 74, 75, 76, 77, 78, 79, 80, 81, 82, 83, 84] (by decide +kernel) (by decide +kernel)
set_option maxRecDepth 20000 in
theorem gX5_worthToThrow_X5_worthAtOnce : GoodIn wsX5_worthToThrow (wsV RX5 162 RX5 yX5_worthAtOnce wsX5_worthAtOnce) := goodIn_app (goodIn_of _ (by decide +kernel)) ggX5_worthToThrow_X5_worthAtOnce
set_option maxRecDepth 20000 in
theorem ggX5_worthToThrow_X0_timesIn16 : GoodIn wsX5_worthToThrow wsX0_timesIn16 := goodIn_r _ [37, 38] (by decide +kernel) (by decide +kernel)
set_option maxRecDepth 20000 in
theorem gX5_worthToThrow_X0_timesIn16 : GoodIn wsX5_worthToThrow (va_wsS RX5 166 yX0_timesIn16 wsX0_timesIn16) := goodIn_app (goodIn_of _ (by decide +kernel)) ggX5_worthToThrow_X0_timesIn16
set_option maxRecDepth 20000 in
theorem ggX5_worthToThrow_X5_worthBehindThrow : GoodIn wsX5_worthToThrow wsX5_worthBehindThrow := goodIn_r _ [64, 11, 12, 13, 14, 43, 65, 66, 21, 67, 26, 20, 22, 68, 69, 56, 70, 71, 72, 73, 5, 61, 62, 63, 42, 44, 45, 46, 47, 48, 49, 50, 51, 52, 53, 54, 55, 57, 58, 59, 60, 0, 1, 2, 3, 4, 6, 7, 8, 9, 10, 15, 16, 17, 18, 19, 23, 24, 25, 27, 28, 29, 30, 31, 32, 33, 34, 35, 36, 37, 38, 39, 40, 41, 74, 75, 76, 77, 78, 79, 80, 81, 82, 83, 84] (by decide +kernel) (by decide +kernel)
set_option maxRecDepth 20000 in
theorem gX5_worthToThrow_X5_worthBehindThrow : GoodIn wsX5_worthToThrow (wsV RX5 154 RX5 yX5_worthBehindThrow wsX5_worthBehindThrow) := goodIn_app (goodIn_of _ (by decide +kernel)) ggX5_worthToThrow_X5_worthBehindThrow
theorem dX5_worthToThrow_0 : decode cX5_worthToThrow 0 = .ok (.iload 6, 2) := by decide +kernel
theorem dX5_worthToThrow_2 : decode cX5_worthToThrow 2 = .ok (.ifCond .gt 12, 3) := by decide +kernel
theorem dX5_worthToThrow_5 : decode cX5_worthToThrow 5 = .ok (.aload_n 0, 1) := by decide +kernel
theorem dX5_worthToThrow_6 : decode cX5_worthToThrow 6 = .ok (.lload_n 1, 1) := by decide +kernel
theorem dX5_worthToThrow_7 : decode cX5_worthToThrow 7 = .ok (.lload_n 3, 1) := by decide +kernel
theorem dX5_worthToThrow_8 : decode cX5_worthToThrow 8 = .ok (.iload 5, 2) := by decide +kernel
theorem dX5_worthToThrow_10 : decode cX5_worthToThrow 10 = .ok (.invokevirtual 162, 3) := by decide +kernel
theorem dX5_worthToThrow_13 : decode cX5_worthToThrow 13 = .ok (.ireturn, 1) := by decide +kernel
theorem dX5_worthToThrow_14 : decode cX5_worthToThrow 14 = .ok (.lconst 0, 1) := by decide +kernel
theorem dX5_worthToThrow_15 : decode cX5_worthToThrow 15 = .ok (.lstore 7, 2) := by decide +kernel
theorem dX5_worthToThrow_17 : decode cX5_worthToThrow 17 = .ok (.iconst 0, 1) := by decide +kernel
theorem dX5_worthToThrow_18 : decode cX5_worthToThrow 18 = .ok (.istore 9, 2) := by decide +kernel
theorem dX5_worthToThrow_20 : decode cX5_worthToThrow 20 = .ok (.iload 9, 2) := by decide +kernel
theorem dX5_worthToThrow_22 : decode cX5_worthToThrow 22 = .ok (.iconst 4, 1) := by decide +kernel
theorem dX5_worthToThrow_23 : decode cX5_worthToThrow 23 = .ok (.if_icmp .gt 36, 3) := by decide +kernel
theorem dX5_worthToThrow_26 : decode cX5_worthToThrow 26 = .ok (.lload 7, 2) := by decide +kernel
theorem dX5_worthToThrow_28 : decode cX5_worthToThrow 28 = .ok (.iload 9, 2) := by decide +kernel
theorem dX5_worthToThrow_30 : decode cX5_worthToThrow 30 = .ok (.invokestatic 166, 3) := by decide +kernel
theorem dX5_worthToThrow_33 : decode cX5_worthToThrow 33 = .ok (.i2l, 1) := by decide +kernel
theorem dX5_worthToThrow_34 : decode cX5_worthToThrow 34 = .ok (.aload_n 0, 1) := by decide +kernel
theorem dX5_worthToThrow_35 : decode cX5_worthToThrow 35 = .ok (.lload_n 1, 1) := by decide +kernel
theorem dX5_worthToThrow_36 : decode cX5_worthToThrow 36 = .ok (.lload_n 3, 1) := by decide +kernel
theorem dX5_worthToThrow_37 : decode cX5_worthToThrow 37 = .ok (.iload 5, 2) := by decide +kernel
theorem dX5_worthToThrow_39 : decode cX5_worthToThrow 39 = .ok (.iload 9, 2) := by decide +kernel
theorem dX5_worthToThrow_41 : decode cX5_worthToThrow 41 = .ok (.iload 6, 2) := by decide +kernel
theorem dX5_worthToThrow_43 : decode cX5_worthToThrow 43 = .ok (.iconst 1, 1) := by decide +kernel
theorem dX5_worthToThrow_44 : decode cX5_worthToThrow 44 = .ok (.isub, 1) := by decide +kernel
theorem dX5_worthToThrow_45 : decode cX5_worthToThrow 45 = .ok (.invokevirtual 154, 3) := by decide +kernel
theorem dX5_worthToThrow_48 : decode cX5_worthToThrow 48 = .ok (.i2l, 1) := by decide +kernel
theorem dX5_worthToThrow_49 : decode cX5_worthToThrow 49 = .ok (.lmul, 1) := by decide +kernel
theorem dX5_worthToThrow_50 : decode cX5_worthToThrow 50 = .ok (.ladd, 1) := by decide +kernel
theorem dX5_worthToThrow_51 : decode cX5_worthToThrow 51 = .ok (.lstore 7, 2) := by decide +kernel
theorem dX5_worthToThrow_53 : decode cX5_worthToThrow 53 = .ok (.iinc 9 1, 3) := by decide +kernel
theorem dX5_worthToThrow_56 : decode cX5_worthToThrow 56 = .ok (.goto (-36), 3) := by decide +kernel
theorem dX5_worthToThrow_59 : decode cX5_worthToThrow 59 = .ok (.lload 7, 2) := by decide +kernel
theorem dX5_worthToThrow_61 : decode cX5_worthToThrow 61 = .ok (.ldc2_w 169, 3) := by decide +kernel
theorem dX5_worthToThrow_64 : decode cX5_worthToThrow 64 = .ok (.ldiv, 1) := by decide +kernel
theorem dX5_worthToThrow_65 : decode cX5_worthToThrow 65 = .ok (.l2i, 1) := by decide +kernel
theorem dX5_worthToThrow_66 : decode cX5_worthToThrow 66 = .ok (.ireturn, 1) := by decide +kernel
set_option maxRecDepth 20000 in
theorem ggX5_worthBehindThrow_X2_canMove : GoodIn wsX5_worthBehindThrow wsX2_canMove := goodIn_r _ [9, 10, 11, 8, 12, 13, 14, 15, 16] (by decide +kernel) (by decide +kernel)
set_option maxRecDepth 20000 in
theorem gX5_worthBehindThrow_X2_canMove : GoodIn wsX5_worthBehindThrow (va_wsS RX5 142 yX2_canMove wsX2_canMove) := goodIn_app (goodIn_of _ (by decide +kernel)) ggX5_worthBehindThrow_X2_canMove
set_option maxRecDepth 20000 in
theorem ggX5_worthBehindThrow_X5_worthBehindMove : GoodIn wsX5_worthBehindThrow wsX5_worthBehindMove := goodIn_r _ [24, 5, 25, 26, 8, 27, 28, 29, 30, 31, 32, 33, 34, 35, 36, 15, 37, 10, 11, 12, 38, 39, 40, 21, 22, 23, 20, 0, 1, 2, 3, 4, 6, 7, 9, 13, 14, 16, 17, 18, 19, 41, 42, 43, 44, 45, 46, 47, 48, 49, 50, 51, 52, 53, 54, 55, 56, 57, 58, 59, 60, 61, 62, 63, 64, 65, 66, 67, 68, 69, 70, 71, 72, 73, 74, 75, 76, 77, 78, 79, 80, 81, 82, 83, 84] (by decide +kernel) (by decide +kernel)
set_option maxRecDepth 20000 in
theorem gX5_worthBehindThrow_X5_worthBehindMove : GoodIn wsX5_worthBehindThrow (wsV RX5 158 RX5 yX5_worthBehindMove wsX5_worthBehindMove) := goodIn_app (goodIn_of _ (by decide +kernel)) ggX5_worthBehindThrow_X5_worthBehindMove
set_option maxRecDepth 20000 in
theorem ggX5_worthBehindThrow_X5_worthToThrow : GoodIn wsX5_worthBehindThrow wsX5_worthToThrow := goodIn_r _ [41, 42, 43, 44, 45, 20, 46, 47, 48, 49, 50, 1, 2, 3, 4, 51, 52, 53, 54, 55, 11, 8, 12, 56, 57, 58, 10, 59, 60, 61, 62, 63, 64, 65, 66, 67, 68, 69, 70, 71, 72, 73, 24, 5, 25, 26, 27, 28, 29, 30, 31, 32, 33, 34, 35, 36, 15, 37, 38, 39, 40, 21, 22, 23, 0, 6, 7, 9, 13, 14, 16, 17, 18, 19, 74, 75, 76, 77, 78, 79, 80, 81, 82, 83, 84] (by decide +kernel) (by decide +kernel)
set_option maxRecDepth 20000 in
theorem gX5_worthBehindThrow_X5_worthToThrow : GoodIn wsX5_worthBehindThrow (wsV RX5 150 RX5 yX5_worthToThrow wsX5_worthToThrow) := goodIn_app (goodIn_of _ (by decide +kernel)) ggX5_worthBehindThrow_X5_worthToThrow
theorem dX5_worthBehindThrow_0 : decode cX5_worthBehindThrow 0 = .ok (.iconst (-1), 1) := by decide +kernel
theorem dX5_worthBehindThrow_1 : decode cX5_worthBehindThrow 1 = .ok (.istore 8, 2) := by decide +kernel
theorem dX5_worthBehindThrow_3 : decode cX5_worthBehindThrow 3 = .ok (.iconst 0, 1) := by decide +kernel
theorem dX5_worthBehindThrow_4 : decode cX5_worthBehindThrow 4 = .ok (.istore 9, 2) := by decide +kernel
theorem dX5_worthBehindThrow_6 : decode cX5_worthBehindThrow 6 = .ok (.iload 9, 2) := by decide +kernel
theorem dX5_worthBehindThrow_8 : decode cX5_worthBehindThrow 8 = .ok (.bipush 14, 2) := by decide +kernel
theorem dX5_worthBehindThrow_10 : decode cX5_worthBehindThrow 10 = .ok (.if_icmp .gt 42, 3) := by decide +kernel
theorem dX5_worthBehindThrow_13 : decode cX5_worthBehindThrow 13 = .ok (.lload_n 1, 1) := by decide +kernel
theorem dX5_worthBehindThrow_14 : decode cX5_worthBehindThrow 14 = .ok (.lload_n 3, 1) := by decide +kernel
theorem dX5_worthBehindThrow_15 : decode cX5_worthBehindThrow 15 = .ok (.iload 9, 2) := by decide +kernel
theorem dX5_worthBehindThrow_17 : decode cX5_worthBehindThrow 17 = .ok (.iload 6, 2) := by decide +kernel
theorem dX5_worthBehindThrow_19 : decode cX5_worthBehindThrow 19 = .ok (.invokestatic 142, 3) := by decide +kernel
theorem dX5_worthBehindThrow_22 : decode cX5_worthBehindThrow 22 = .ok (.ifCond .eq 24, 3) := by decide +kernel
theorem dX5_worthBehindThrow_25 : decode cX5_worthBehindThrow 25 = .ok (.iload 8, 2) := by decide +kernel
theorem dX5_worthBehindThrow_27 : decode cX5_worthBehindThrow 27 = .ok (.aload_n 0, 1) := by decide +kernel
theorem dX5_worthBehindThrow_28 : decode cX5_worthBehindThrow 28 = .ok (.lload_n 1, 1) := by decide +kernel
theorem dX5_worthBehindThrow_29 : decode cX5_worthBehindThrow 29 = .ok (.lload_n 3, 1) := by decide +kernel
theorem dX5_worthBehindThrow_30 : decode cX5_worthBehindThrow 30 = .ok (.iload 5, 2) := by decide +kernel
theorem dX5_worthBehindThrow_32 : decode cX5_worthBehindThrow 32 = .ok (.iload 9, 2) := by decide +kernel
theorem dX5_worthBehindThrow_34 : decode cX5_worthBehindThrow 34 = .ok (.iload 6, 2) := by decide +kernel
theorem dX5_worthBehindThrow_36 : decode cX5_worthBehindThrow 36 = .ok (.iload 7, 2) := by decide +kernel
theorem dX5_worthBehindThrow_38 : decode cX5_worthBehindThrow 38 = .ok (.invokevirtual 158, 3) := by decide +kernel
theorem dX5_worthBehindThrow_41 : decode cX5_worthBehindThrow 41 = .ok (.invokestatic 171, 3) := by decide +kernel
theorem dX5_worthBehindThrow_44 : decode cX5_worthBehindThrow 44 = .ok (.istore 8, 2) := by decide +kernel
theorem dX5_worthBehindThrow_46 : decode cX5_worthBehindThrow 46 = .ok (.iinc 9 1, 3) := by decide +kernel
theorem dX5_worthBehindThrow_49 : decode cX5_worthBehindThrow 49 = .ok (.goto (-43), 3) := by decide +kernel
theorem dX5_worthBehindThrow_52 : decode cX5_worthBehindThrow 52 = .ok (.iload 8, 2) := by decide +kernel
theorem dX5_worthBehindThrow_54 : decode cX5_worthBehindThrow 54 = .ok (.iconst (-1), 1) := by decide +kernel
theorem dX5_worthBehindThrow_55 : decode cX5_worthBehindThrow 55 = .ok (.if_icmp .eq 8, 3) := by decide +kernel
theorem dX5_worthBehindThrow_58 : decode cX5_worthBehindThrow 58 = .ok (.iload 8, 2) := by decide +kernel
theorem dX5_worthBehindThrow_60 : decode cX5_worthBehindThrow 60 = .ok (.goto 17, 3) := by decide +kernel
theorem dX5_worthBehindThrow_63 : decode cX5_worthBehindThrow 63 = .ok (.ldc 105, 2) := by decide +kernel
theorem dX5_worthBehindThrow_65 : decode cX5_worthBehindThrow 65 = .ok (.aload_n 0, 1) := by decide +kernel
theorem dX5_worthBehindThrow_66 : decode cX5_worthBehindThrow 66 = .ok (.lload_n 3, 1) := by decide +kernel
theorem dX5_worthBehindThrow_67 : decode cX5_worthBehindThrow 67 = .ok (.lload_n 1, 1) := by decide +kernel
theorem dX5_worthBehindThrow_68 : decode cX5_worthBehindThrow 68 = .ok (.iload 5, 2) := by decide +kernel
theorem dX5_worthBehindThrow_70 : decode cX5_worthBehindThrow 70 = .ok (.ineg, 1) := by decide +kernel
theorem dX5_worthBehindThrow_71 : decode cX5_worthBehindThrow 71 = .ok (.iload 7, 2) := by decide +kernel
theorem dX5_worthBehindThrow_73 : decode cX5_worthBehindThrow 73 = .ok (.invokevirtual 150, 3) := by decide +kernel
theorem dX5_worthBehindThrow_76 : decode cX5_worthBehindThrow 76 = .ok (.isub, 1) := by decide +kernel
theorem dX5_worthBehindThrow_77 : decode cX5_worthBehindThrow 77 = .ok (.ireturn, 1) := by decide +kernel
set_option maxRecDepth 20000 in
theorem ggX5_worthBehindMove_X2_shifted : GoodIn wsX5_worthBehindMove wsX2_shifted := goodIn_r _ [5] (by decide +kernel) (by decide +kernel)
set_option maxRecDepth 20000 in
theorem gX5_worthBehindMove_X2_shifted : GoodIn wsX5_worthBehindMove (va_wsS RX5 74 yX2_shifted wsX2_shifted) := goodIn_app (goodIn_of _ (by decide +kernel)) ggX5_worthBehindMove_X2_shifted
set_option maxRecDepth 20000 in
theorem ggX5_worthBehindMove_X2_isAllHome : GoodIn wsX5_worthBehindMove wsX2_isAllHome := goodIn_r _ [8, 9] (by decide +kernel) (by decide +kernel)
set_option maxRecDepth 20000 in
theorem gX5_worthBehindMove_X2_isAllHome : GoodIn wsX5_worthBehindMove (va_wsS RX5 87 yX2_isAllHome wsX2_isAllHome) := goodIn_app (goodIn_of _ (by decide +kernel)) ggX5_worthBehindMove_X2_isAllHome
set_option maxRecDepth 20000 in
theorem ggX5_worthBehindMove_X2_canBeTaken : GoodIn wsX5_worthBehindMove wsX2_canBeTaken := goodIn_r _ [12, 13, 14, 15, 16, 17, 18, 4, 19] (by decide +kernel) (by decide +kernel)
set_option maxRecDepth 20000 in
theorem gX5_worthBehindMove_X2_canBeTaken : GoodIn wsX5_worthBehindMove (va_wsS RX5 80 yX2_canBeTaken wsX2_canBeTaken) := goodIn_app (goodIn_of _ (by decide +kernel)) ggX5_worthBehindMove_X2_canBeTaken
set_option maxRecDepth 20000 in
theorem ggX5_worthBehindMove_X4_isRosette : GoodIn wsX5_worthBehindMove wsX4_isRosette := goodIn_r _ [22] (by decide +kernel) (by decide +kernel)
set_option maxRecDepth 20000 in
theorem gX5_worthBehindMove_X4_isRosette : GoodIn wsX5_worthBehindMove (va_wsS RX5 91 yX4_isRosette wsX4_isRosette) := goodIn_app (goodIn_of _ (by decide +kernel)) ggX5_worthBehindMove_X4_isRosette
set_option maxRecDepth 20000 in
theorem ggX5_worthBehindMove_X5_worthToThrow : GoodIn wsX5_worthBehindMove wsX5_worthToThrow := goodIn_r _ [41, 42, 43, 44, 45, 26, 46, 47, 48, 49, 50, 28, 29, 30, 31, 51, 52, 53, 54, 55, 18, 4, 19, 56, 57, 58, 17, 59, 60, 61, 62, 63, 64, 65, 66, 67, 68, 69, 70, 71, 72, 73, 0, 1, 2, 3, 5, 6, 7, 8, 9, 10, 11, 12, 13, 14, 15, 16, 20, 21, 22, 23, 24, 25, 27, 32, 33, 34, 35, 36, 37, 38, 39, 40, 74, 75, 76, 77, 78, 79, 80, 81, 82, 83, 84] (by decide +kernel) (by decide +kernel)
set_option maxRecDepth 20000 in
theorem gX5_worthBehindMove_X5_worthToThrow : GoodIn wsX5_worthBehindMove (wsV RX5 150 RX5 yX5_worthToThrow wsX5_worthToThrow) := goodIn_app (goodIn_of _ (by decide +kernel)) ggX5_worthBehindMove_X5_worthToThrow
theorem dX5_worthBehindMove_0 : decode cX5_worthBehindMove 0 = .ok (.iload 6, 2) := by decide +kernel
theorem dX5_worthBehindMove_2 : decode cX5_worthBehindMove 2 = .ok (.iload 7, 2) := by decide +kernel
theorem dX5_worthBehindMove_4 : decode cX5_worthBehindMove 4 = .ok (.iadd, 1) := by decide +kernel
theorem dX5_worthBehindMove_5 : decode cX5_worthBehindMove 5 = .ok (.istore 9, 2) := by decide +kernel
theorem dX5_worthBehindMove_7 : decode cX5_worthBehindMove 7 = .ok (.lload_n 1, 1) := by decide +kernel
theorem dX5_worthBehindMove_8 : decode cX5_worthBehindMove 8 = .ok (.iload 6, 2) := by decide +kernel
theorem dX5_worthBehindMove_10 : decode cX5_worthBehindMove 10 = .ok (.iload 9, 2) := by decide +kernel
theorem dX5_worthBehindMove_12 : decode cX5_worthBehindMove 12 = .ok (.invokestatic 74, 3) := by decide +kernel
theorem dX5_worthBehindMove_15 : decode cX5_worthBehindMove 15 = .ok (.lstore 10, 2) := by decide +kernel
theorem dX5_worthBehindMove_17 : decode cX5_worthBehindMove 17 = .ok (.lload 10, 2) := by decide +kernel
theorem dX5_worthBehindMove_19 : decode cX5_worthBehindMove 19 = .ok (.invokestatic 87, 3) := by decide +kernel
theorem dX5_worthBehindMove_22 : decode cX5_worthBehindMove 22 = .ok (.ifCond .eq 6, 3) := by decide +kernel
theorem dX5_worthBehindMove_25 : decode cX5_worthBehindMove 25 = .ok (.ldc 105, 2) := by decide +kernel
theorem dX5_worthBehindMove_27 : decode cX5_worthBehindMove 27 = .ok (.ireturn, 1) := by decide +kernel
theorem dX5_worthBehindMove_28 : decode cX5_worthBehindMove 28 = .ok (.lload_n 3, 1) := by decide +kernel
theorem dX5_worthBehindMove_29 : decode cX5_worthBehindMove 29 = .ok (.lstore 12, 2) := by decide +kernel
theorem dX5_worthBehindMove_31 : decode cX5_worthBehindMove 31 = .ok (.iload 5, 2) := by decide +kernel
theorem dX5_worthBehindMove_33 : decode cX5_worthBehindMove 33 = .ok (.iload 7, 2) := by decide +kernel
theorem dX5_worthBehindMove_35 : decode cX5_worthBehindMove 35 = .ok (.iadd, 1) := by decide +kernel
theorem dX5_worthBehindMove_36 : decode cX5_worthBehindMove 36 = .ok (.istore 14, 2) := by decide +kernel
theorem dX5_worthBehindMove_38 : decode cX5_worthBehindMove 38 = .ok (.lload_n 3, 1) := by decide +kernel
theorem dX5_worthBehindMove_39 : decode cX5_worthBehindMove 39 = .ok (.iload 9, 2) := by decide +kernel
theorem dX5_worthBehindMove_41 : decode cX5_worthBehindMove 41 = .ok (.invokestatic 80, 3) := by decide +kernel
theorem dX5_worthBehindMove_44 : decode cX5_worthBehindMove 44 = .ok (.ifCond .eq 19, 3) := by decide +kernel
theorem dX5_worthBehindMove_47 : decode cX5_worthBehindMove 47 = .ok (.lload_n 3, 1) := by decide +kernel
theorem dX5_worthBehindMove_48 : decode cX5_worthBehindMove 48 = .ok (.iload 9, 2) := by decide +kernel
theorem dX5_worthBehindMove_50 : decode cX5_worthBehindMove 50 = .ok (.iconst 0, 1) := by decide +kernel
theorem dX5_worthBehindMove_51 : decode cX5_worthBehindMove 51 = .ok (.invokestatic 74, 3) := by decide +kernel
theorem dX5_worthBehindMove_54 : decode cX5_worthBehindMove 54 = .ok (.lstore 12, 2) := by decide +kernel
theorem dX5_worthBehindMove_56 : decode cX5_worthBehindMove 56 = .ok (.iload 14, 2) := by decide +kernel
theorem dX5_worthBehindMove_58 : decode cX5_worthBehindMove 58 = .ok (.iload 9, 2) := by decide +kernel
theorem dX5_worthBehindMove_60 : decode cX5_worthBehindMove 60 = .ok (.iadd, 1) := by decide +kernel
theorem dX5_worthBehindMove_61 : decode cX5_worthBehindMove 61 = .ok (.istore 14, 2) := by decide +kernel
theorem dX5_worthBehindMove_63 : decode cX5_worthBehindMove 63 = .ok (.iload 9, 2) := by decide +kernel
theorem dX5_worthBehindMove_65 : decode cX5_worthBehindMove 65 = .ok (.invokestatic 91, 3) := by decide +kernel
theorem dX5_worthBehindMove_68 : decode cX5_worthBehindMove 68 = .ok (.ifCond .eq 16, 3) := by decide +kernel
theorem dX5_worthBehindMove_71 : decode cX5_worthBehindMove 71 = .ok (.aload_n 0, 1) := by decide +kernel
theorem dX5_worthBehindMove_72 : decode cX5_worthBehindMove 72 = .ok (.lload 10, 2) := by decide +kernel
theorem dX5_worthBehindMove_74 : decode cX5_worthBehindMove 74 = .ok (.lload 12, 2) := by decide +kernel
theorem dX5_worthBehindMove_76 : decode cX5_worthBehindMove 76 = .ok (.iload 14, 2) := by decide +kernel
theorem dX5_worthBehindMove_78 : decode cX5_worthBehindMove 78 = .ok (.iload 8, 2) := by decide +kernel
theorem dX5_worthBehindMove_80 : decode cX5_worthBehindMove 80 = .ok (.invokevirtual 150, 3) := by decide +kernel
theorem dX5_worthBehindMove_83 : decode cX5_worthBehindMove 83 = .ok (.ireturn, 1) := by decide +kernel
theorem dX5_worthBehindMove_84 : decode cX5_worthBehindMove 84 = .ok (.ldc 105, 2) := by decide +kernel
theorem dX5_worthBehindMove_86 : decode cX5_worthBehindMove 86 = .ok (.aload_n 0, 1) := by decide +kernel
theorem dX5_worthBehindMove_87 : decode cX5_worthBehindMove 87 = .ok (.lload 12, 2) := by decide +kernel
theorem dX5_worthBehindMove_89 : decode cX5_worthBehindMove 89 = .ok (.lload 10, 2) := by decide +kernel
theorem dX5_worthBehindMove_91 : decode cX5_worthBehindMove 91 = .ok (.iload 14, 2) := by decide +kernel
theorem dX5_worthBehindMove_93 : decode cX5_worthBehindMove 93 = .ok (.ineg, 1) := by decide +kernel
theorem dX5_worthBehindMove_94 : decode cX5_worthBehindMove 94 = .ok (.iload 8, 2) := by decide +kernel
theorem dX5_worthBehindMove_96 : decode cX5_worthBehindMove 96 = .ok (.invokevirtual 150, 3) := by decide +kernel
theorem dX5_worthBehindMove_99 : decode cX5_worthBehindMove 99 = .ok (.isub, 1) := by decide +kernel
theorem dX5_worthBehindMove_100 : decode cX5_worthBehindMove 100 = .ok (.ireturn, 1) := by decide +kernel
set_option maxRecDepth 20000 in
theorem ggX5_worthAtOnce_X2_countAt : GoodIn wsX5_worthAtOnce wsX2_countAt := goodIn_r _ [16] (by decide +kernel) (by decide +kernel)
set_option maxRecDepth 20000 in
theorem gX5_worthAtOnce_X2_countAt : GoodIn wsX5_worthAtOnce (va_wsS RX5 94 yX2_countAt wsX2_countAt) := goodIn_app (goodIn_of _ (by decide +kernel)) ggX5_worthAtOnce_X2_countAt
set_option maxRecDepth 20000 in
theorem ggX5_worthAtOnce_X2_firstPlace : GoodIn wsX5_worthAtOnce wsX2_firstPlace := goodIn_r _ [19, 20, 14, 15, 16] (by decide +kernel) (by decide +kernel)
set_option maxRecDepth 20000 in
theorem gX5_worthAtOnce_X2_firstPlace : GoodIn wsX5_worthAtOnce (va_wsS RX5 176 yX2_firstPlace wsX2_firstPlace) := goodIn_app (goodIn_of _ (by decide +kernel)) ggX5_worthAtOnce_X2_firstPlace
set_option maxRecDepth 20000 in
theorem ggX5_worthAtOnce_X1_held : GoodIn wsX5_worthAtOnce wsX1_held := goodIn_r _ [25, 26, 27, 37, 38] (by decide +kernel) (by decide +kernel)
set_option maxRecDepth 20000 in
theorem gX5_worthAtOnce_X1_held : GoodIn wsX5_worthAtOnce (wsV RX5 125 RX1 yX1_held wsX1_held) := goodIn_app (goodIn_of _ (by decide +kernel)) ggX5_worthAtOnce_X1_held
theorem dX5_worthAtOnce_0 : decode cX5_worthAtOnce 0 = .ok (.aload_n 0, 1) := by decide +kernel
theorem dX5_worthAtOnce_1 : decode cX5_worthAtOnce 1 = .ok (.getfield 135, 3) := by decide +kernel
theorem dX5_worthAtOnce_4 : decode cX5_worthAtOnce 4 = .ok (.iconst 1, 1) := by decide +kernel
theorem dX5_worthAtOnce_5 : decode cX5_worthAtOnce 5 = .ok (.isub, 1) := by decide +kernel
theorem dX5_worthAtOnce_6 : decode cX5_worthAtOnce 6 = .ok (.istore 6, 2) := by decide +kernel
theorem dX5_worthAtOnce_8 : decode cX5_worthAtOnce 8 = .ok (.lload_n 1, 1) := by decide +kernel
theorem dX5_worthAtOnce_9 : decode cX5_worthAtOnce 9 = .ok (.bipush 15, 2) := by decide +kernel
theorem dX5_worthAtOnce_11 : decode cX5_worthAtOnce 11 = .ok (.invokestatic 94, 3) := by decide +kernel
theorem dX5_worthAtOnce_14 : decode cX5_worthAtOnce 14 = .ok (.iload 6, 2) := by decide +kernel
theorem dX5_worthAtOnce_16 : decode cX5_worthAtOnce 16 = .ok (.if_icmp .ne 32, 3) := by decide +kernel
theorem dX5_worthAtOnce_19 : decode cX5_worthAtOnce 19 = .ok (.lload_n 3, 1) := by decide +kernel
theorem dX5_worthAtOnce_20 : decode cX5_worthAtOnce 20 = .ok (.bipush 15, 2) := by decide +kernel
theorem dX5_worthAtOnce_22 : decode cX5_worthAtOnce 22 = .ok (.invokestatic 94, 3) := by decide +kernel
theorem dX5_worthAtOnce_25 : decode cX5_worthAtOnce 25 = .ok (.iload 6, 2) := by decide +kernel
theorem dX5_worthAtOnce_27 : decode cX5_worthAtOnce 27 = .ok (.if_icmp .ne 21, 3) := by decide +kernel
theorem dX5_worthAtOnce_30 : decode cX5_worthAtOnce 30 = .ok (.aload_n 0, 1) := by decide +kernel
theorem dX5_worthAtOnce_31 : decode cX5_worthAtOnce 31 = .ok (.getfield 22, 3) := by decide +kernel
theorem dX5_worthAtOnce_34 : decode cX5_worthAtOnce 34 = .ok (.lload_n 1, 1) := by decide +kernel
theorem dX5_worthAtOnce_35 : decode cX5_worthAtOnce 35 = .ok (.invokestatic 176, 3) := by decide +kernel
theorem dX5_worthAtOnce_38 : decode cX5_worthAtOnce 38 = .ok (.lload_n 3, 1) := by decide +kernel
theorem dX5_worthAtOnce_39 : decode cX5_worthAtOnce 39 = .ok (.invokestatic 176, 3) := by decide +kernel
theorem dX5_worthAtOnce_42 : decode cX5_worthAtOnce 42 = .ok (.bipush 40, 2) := by decide +kernel
theorem dX5_worthAtOnce_44 : decode cX5_worthAtOnce 44 = .ok (.invokevirtual 125, 3) := by decide +kernel
theorem dX5_worthAtOnce_47 : decode cX5_worthAtOnce 47 = .ok (.ireturn, 1) := by decide +kernel
theorem dX5_worthAtOnce_48 : decode cX5_worthAtOnce 48 = .ok (.ldc 179, 2) := by decide +kernel
theorem dX5_worthAtOnce_50 : decode cX5_worthAtOnce 50 = .ok (.ldc 180, 2) := by decide +kernel
theorem dX5_worthAtOnce_52 : decode cX5_worthAtOnce 52 = .ok (.iload 5, 2) := by decide +kernel
theorem dX5_worthAtOnce_54 : decode cX5_worthAtOnce 54 = .ok (.imul, 1) := by decide +kernel
theorem dX5_worthAtOnce_55 : decode cX5_worthAtOnce 55 = .ok (.iadd, 1) := by decide +kernel
theorem dX5_worthAtOnce_56 : decode cX5_worthAtOnce 56 = .ok (.iconst 1, 1) := by decide +kernel
theorem dX5_worthAtOnce_57 : decode cX5_worthAtOnce 57 = .ok (.invokestatic 171, 3) := by decide +kernel
theorem dX5_worthAtOnce_60 : decode cX5_worthAtOnce 60 = .ok (.ldc 181, 2) := by decide +kernel
theorem dX5_worthAtOnce_62 : decode cX5_worthAtOnce 62 = .ok (.invokestatic 182, 3) := by decide +kernel
theorem dX5_worthAtOnce_65 : decode cX5_worthAtOnce 65 = .ok (.ireturn, 1) := by decide +kernel
theorem dJ9_max_7cf53_0 : decode cJ9_max_7cf53 0 = .ok (.iload_n 0, 1) := by decide +kernel
theorem dJ9_max_7cf53_1 : decode cJ9_max_7cf53 1 = .ok (.iload_n 1, 1) := by decide +kernel
theorem dJ9_max_7cf53_2 : decode cJ9_max_7cf53 2 = .ok (.if_icmp .lt 7, 3) := by decide +kernel
theorem dJ9_max_7cf53_5 : decode cJ9_max_7cf53 5 = .ok (.iload_n 0, 1) := by decide +kernel
theorem dJ9_max_7cf53_6 : decode cJ9_max_7cf53 6 = .ok (.goto 4, 3) := by decide +kernel
theorem dJ9_max_7cf53_9 : decode cJ9_max_7cf53 9 = .ok (.iload_n 1, 1) := by decide +kernel
theorem dJ9_max_7cf53_10 : decode cJ9_max_7cf53 10 = .ok (.ireturn, 1) := by decide +kernel
theorem dJ9_min_7cf53_0 : decode cJ9_min_7cf53 0 = .ok (.iload_n 0, 1) := by decide +kernel
theorem dJ9_min_7cf53_1 : decode cJ9_min_7cf53 1 = .ok (.iload_n 1, 1) := by decide +kernel
theorem dJ9_min_7cf53_2 : decode cJ9_min_7cf53 2 = .ok (.if_icmp .gt 7, 3) := by decide +kernel
theorem dJ9_min_7cf53_5 : decode cJ9_min_7cf53 5 = .ok (.iload_n 0, 1) := by decide +kernel
theorem dJ9_min_7cf53_6 : decode cJ9_min_7cf53 6 = .ok (.goto 4, 3) := by decide +kernel
theorem dJ9_min_7cf53_9 : decode cJ9_min_7cf53 9 = .ok (.iload_n 1, 1) := by decide +kernel
theorem dJ9_min_7cf53_10 : decode cJ9_min_7cf53 10 = .ok (.ireturn, 1) := by decide +kernel
end
section
set_option maxRecDepth 20000 in
theorem ggX6_init_X6_layTable : GoodIn wsX6_init wsX6_layTable := goodIn_r _ [25, 10, 26, 11, 9, 27, 28, 29, 30, 24, 31, 32, 33, 34, 35, 36, 37, 38, 39, 40, 41, 49, 50, 51, 52, 53, 54, 55, 56, 57, 58, 59, 60, 61, 62, 63, 64, 65, 66, 67] (by decide +kernel) (by decide +kernel)
set_option maxRecDepth 20000 in
theorem gX6_init_X6_layTable : GoodIn wsX6_init (wsV RX6 57 RX6 yX6_layTable wsX6_layTable) := goodIn_app (goodIn_of _ (by decide +kernel)) ggX6_init_X6_layTable
set_option maxRecDepth 20000 in
theorem ggX6_init_X6_starts : GoodIn wsX6_init wsX6_starts := goodIn_r _ [45, 46, 47, 4, 5, 48, 8, 7, 49, 50, 51, 52, 53, 54, 55, 56, 57, 58, 59, 60, 61, 62, 63, 64, 65, 66, 67] (by decide +kernel) (by decide +kernel)
set_option maxRecDepth 20000 in
theorem gX6_init_X6_starts : GoodIn wsX6_init (wsV RX6 61 RX6 yX6_starts wsX6_starts) := goodIn_app (goodIn_of _ (by decide +kernel)) ggX6_init_X6_starts
theorem dX6_init_0 : decode cX6_init 0 = .ok (.aload_n 0, 1) := by decide +kernel
theorem dX6_init_1 : decode cX6_init 1 = .ok (.invokespecial 1, 3) := by decide +kernel
theorem dX6_init_4 : decode cX6_init 4 = .ok (.aload_n 0, 1) := by decide +kernel
theorem dX6_init_5 : decode cX6_init 5 = .ok (.iconst (-1), 1) := by decide +kernel
theorem dX6_init_6 : decode cX6_init 6 = .ok (.putfield 9, 3) := by decide +kernel
theorem dX6_init_9 : decode cX6_init 9 = .ok (.aload_n 0, 1) := by decide +kernel
theorem dX6_init_10 : decode cX6_init 10 = .ok (.iconst (-1), 1) := by decide +kernel
theorem dX6_init_11 : decode cX6_init 11 = .ok (.putfield 13, 3) := by decide +kernel
theorem dX6_init_14 : decode cX6_init 14 = .ok (.aload_n 0, 1) := by decide +kernel
theorem dX6_init_15 : decode cX6_init 15 = .ok (.iconst 2, 1) := by decide +kernel
theorem dX6_init_16 : decode cX6_init 16 = .ok (.newarray .int, 2) := by decide +kernel
theorem dX6_init_18 : decode cX6_init 18 = .ok (.putfield 16, 3) := by decide +kernel
theorem dX6_init_21 : decode cX6_init 21 = .ok (.aload_n 0, 1) := by decide +kernel
theorem dX6_init_22 : decode cX6_init 22 = .ok (.bipush 32, 2) := by decide +kernel
theorem dX6_init_24 : decode cX6_init 24 = .ok (.newarray .int, 2) := by decide +kernel
theorem dX6_init_26 : decode cX6_init 26 = .ok (.putfield 20, 3) := by decide +kernel
theorem dX6_init_29 : decode cX6_init 29 = .ok (.aload_n 0, 1) := by decide +kernel
theorem dX6_init_30 : decode cX6_init 30 = .ok (.iconst 5, 1) := by decide +kernel
theorem dX6_init_31 : decode cX6_init 31 = .ok (.newarray .int, 2) := by decide +kernel
theorem dX6_init_33 : decode cX6_init 33 = .ok (.putfield 23, 3) := by decide +kernel
theorem dX6_init_36 : decode cX6_init 36 = .ok (.aload_n 0, 1) := by decide +kernel
theorem dX6_init_37 : decode cX6_init 37 = .ok (.sipush 225, 3) := by decide +kernel
theorem dX6_init_40 : decode cX6_init 40 = .ok (.newarray .int, 2) := by decide +kernel
theorem dX6_init_42 : decode cX6_init 42 = .ok (.putfield 26, 3) := by decide +kernel
theorem dX6_init_45 : decode cX6_init 45 = .ok (.aload_n 0, 1) := by decide +kernel
theorem dX6_init_46 : decode cX6_init 46 = .ok (.sipush 225, 3) := by decide +kernel
theorem dX6_init_49 : decode cX6_init 49 = .ok (.newarray .int, 2) := by decide +kernel
theorem dX6_init_51 : decode cX6_init 51 = .ok (.putfield 29, 3) := by decide +kernel
theorem dX6_init_54 : decode cX6_init 54 = .ok (.aload_n 0, 1) := by decide +kernel
theorem dX6_init_55 : decode cX6_init 55 = .ok (.sipush 225, 3) := by decide +kernel
theorem dX6_init_58 : decode cX6_init 58 = .ok (.newarray .int, 2) := by decide +kernel
theorem dX6_init_60 : decode cX6_init 60 = .ok (.putfield 32, 3) := by decide +kernel
theorem dX6_init_63 : decode cX6_init 63 = .ok (.aload_n 0, 1) := by decide +kernel
theorem dX6_init_64 : decode cX6_init 64 = .ok (.sipush 160, 3) := by decide +kernel
theorem dX6_init_67 : decode cX6_init 67 = .ok (.newarray .int, 2) := by decide +kernel
theorem dX6_init_69 : decode cX6_init 69 = .ok (.putfield 35, 3) := by decide +kernel
theorem dX6_init_72 : decode cX6_init 72 = .ok (.aload_n 0, 1) := by decide +kernel
theorem dX6_init_73 : decode cX6_init 73 = .ok (.iconst 5, 1) := by decide +kernel
theorem dX6_init_74 : decode cX6_init 74 = .ok (.newarray .int, 2) := by decide +kernel
theorem dX6_init_76 : decode cX6_init 76 = .ok (.putfield 38, 3) := by decide +kernel
theorem dX6_init_79 : decode cX6_init 79 = .ok (.aload_n 0, 1) := by decide +kernel
theorem dX6_init_80 : decode cX6_init 80 = .ok (.iconst 5, 1) := by decide +kernel
theorem dX6_init_81 : decode cX6_init 81 = .ok (.newarray .int, 2) := by decide +kernel
theorem dX6_init_83 : decode cX6_init 83 = .ok (.putfield 41, 3) := by decide +kernel
theorem dX6_init_86 : decode cX6_init 86 = .ok (.aload_n 0, 1) := by decide +kernel
theorem dX6_init_87 : decode cX6_init 87 = .ok (.iconst 5, 1) := by decide +kernel
theorem dX6_init_88 : decode cX6_init 88 = .ok (.newarray .int, 2) := by decide +kernel
theorem dX6_init_90 : decode cX6_init 90 = .ok (.putfield 44, 3) := by decide +kernel
theorem dX6_init_93 : decode cX6_init 93 = .ok (.aload_n 0, 1) := by decide +kernel
theorem dX6_init_94 : decode cX6_init 94 = .ok (.iconst 5, 1) := by decide +kernel
theorem dX6_init_95 : decode cX6_init 95 = .ok (.newarray .int, 2) := by decide +kernel
theorem dX6_init_97 : decode cX6_init 97 = .ok (.putfield 47, 3) := by decide +kernel
theorem dX6_init_100 : decode cX6_init 100 = .ok (.aload_n 0, 1) := by decide +kernel
theorem dX6_init_101 : decode cX6_init 101 = .ok (.iconst 5, 1) := by decide +kernel
theorem dX6_init_102 : decode cX6_init 102 = .ok (.newarray .long, 2) := by decide +kernel
theorem dX6_init_104 : decode cX6_init 104 = .ok (.putfield 50, 3) := by decide +kernel
theorem dX6_init_107 : decode cX6_init 107 = .ok (.aload_n 0, 1) := by decide +kernel
theorem dX6_init_108 : decode cX6_init 108 = .ok (.bipush 15, 2) := by decide +kernel
theorem dX6_init_110 : decode cX6_init 110 = .ok (.newarray .int, 2) := by decide +kernel
theorem dX6_init_112 : decode cX6_init 112 = .ok (.putfield 54, 3) := by decide +kernel
theorem dX6_init_115 : decode cX6_init 115 = .ok (.aload_n 0, 1) := by decide +kernel
theorem dX6_init_116 : decode cX6_init 116 = .ok (.getfield 23, 3) := by decide +kernel
theorem dX6_init_119 : decode cX6_init 119 = .ok (.iconst 0, 1) := by decide +kernel
theorem dX6_init_120 : decode cX6_init 120 = .ok (.iconst 1, 1) := by decide +kernel
theorem dX6_init_121 : decode cX6_init 121 = .ok (.iastore, 1) := by decide +kernel
theorem dX6_init_122 : decode cX6_init 122 = .ok (.aload_n 0, 1) := by decide +kernel
theorem dX6_init_123 : decode cX6_init 123 = .ok (.getfield 23, 3) := by decide +kernel
theorem dX6_init_126 : decode cX6_init 126 = .ok (.iconst 1, 1) := by decide +kernel
theorem dX6_init_127 : decode cX6_init 127 = .ok (.iconst 4, 1) := by decide +kernel
theorem dX6_init_128 : decode cX6_init 128 = .ok (.iastore, 1) := by decide +kernel
theorem dX6_init_129 : decode cX6_init 129 = .ok (.aload_n 0, 1) := by decide +kernel
theorem dX6_init_130 : decode cX6_init 130 = .ok (.getfield 23, 3) := by decide +kernel
theorem dX6_init_133 : decode cX6_init 133 = .ok (.iconst 2, 1) := by decide +kernel
theorem dX6_init_134 : decode cX6_init 134 = .ok (.bipush 6, 2) := by decide +kernel
theorem dX6_init_136 : decode cX6_init 136 = .ok (.iastore, 1) := by decide +kernel
theorem dX6_init_137 : decode cX6_init 137 = .ok (.aload_n 0, 1) := by decide +kernel
theorem dX6_init_138 : decode cX6_init 138 = .ok (.getfield 23, 3) := by decide +kernel
theorem dX6_init_141 : decode cX6_init 141 = .ok (.iconst 3, 1) := by decide +kernel
theorem dX6_init_142 : decode cX6_init 142 = .ok (.iconst 4, 1) := by decide +kernel
theorem dX6_init_143 : decode cX6_init 143 = .ok (.iastore, 1) := by decide +kernel
theorem dX6_init_144 : decode cX6_init 144 = .ok (.aload_n 0, 1) := by decide +kernel
theorem dX6_init_145 : decode cX6_init 145 = .ok (.getfield 23, 3) := by decide +kernel
theorem dX6_init_148 : decode cX6_init 148 = .ok (.iconst 4, 1) := by decide +kernel
theorem dX6_init_149 : decode cX6_init 149 = .ok (.iconst 1, 1) := by decide +kernel
theorem dX6_init_150 : decode cX6_init 150 = .ok (.iastore, 1) := by decide +kernel
theorem dX6_init_151 : decode cX6_init 151 = .ok (.aload_n 0, 1) := by decide +kernel
theorem dX6_init_152 : decode cX6_init 152 = .ok (.bipush 40, 2) := by decide +kernel
theorem dX6_init_154 : decode cX6_init 154 = .ok (.invokevirtual 57, 3) := by decide +kernel
theorem dX6_init_157 : decode cX6_init 157 = .ok (.iconst 0, 1) := by decide +kernel
theorem dX6_init_158 : decode cX6_init 158 = .ok (.istore_n 1, 1) := by decide +kernel
theorem dX6_init_159 : decode cX6_init 159 = .ok (.iload_n 1, 1) := by decide +kernel
theorem dX6_init_160 : decode cX6_init 160 = .ok (.sipush 225, 3) := by decide +kernel
theorem dX6_init_163 : decode cX6_init 163 = .ok (.if_icmp .ge 21, 3) := by decide +kernel
theorem dX6_init_166 : decode cX6_init 166 = .ok (.aload_n 0, 1) := by decide +kernel
theorem dX6_init_167 : decode cX6_init 167 = .ok (.getfield 32, 3) := by decide +kernel
theorem dX6_init_170 : decode cX6_init 170 = .ok (.iload_n 1, 1) := by decide +kernel
theorem dX6_init_171 : decode cX6_init 171 = .ok (.aload_n 0, 1) := by decide +kernel
theorem dX6_init_172 : decode cX6_init 172 = .ok (.getfield 26, 3) := by decide +kernel
theorem dX6_init_175 : decode cX6_init 175 = .ok (.iload_n 1, 1) := by decide +kernel
theorem dX6_init_176 : decode cX6_init 176 = .ok (.iaload, 1) := by decide +kernel
theorem dX6_init_177 : decode cX6_init 177 = .ok (.iastore, 1) := by decide +kernel
theorem dX6_init_178 : decode cX6_init 178 = .ok (.iinc 1 1, 3) := by decide +kernel
theorem dX6_init_181 : decode cX6_init 181 = .ok (.goto (-22), 3) := by decide +kernel
theorem dX6_init_184 : decode cX6_init 184 = .ok (.aload_n 0, 1) := by decide +kernel
theorem dX6_init_185 : decode cX6_init 185 = .ok (.iconst 2, 1) := by decide +kernel
theorem dX6_init_186 : decode cX6_init 186 = .ok (.invokevirtual 61, 3) := by decide +kernel
theorem dX6_init_189 : decode cX6_init 189 = .ok (.return_, 1) := by decide +kernel
theorem dX6_thrown_0 : decode cX6_thrown 0 = .ok (.aload_n 0, 1) := by decide +kernel
theorem dX6_thrown_1 : decode cX6_thrown 1 = .ok (.getfield 64, 3) := by decide +kernel
theorem dX6_thrown_4 : decode cX6_thrown 4 = .ok (.ireturn, 1) := by decide +kernel
theorem dX6_fails_0 : decode cX6_fails 0 = .ok (.aload_n 0, 1) := by decide +kernel
theorem dX6_fails_1 : decode cX6_fails 1 = .ok (.iload_n 1, 1) := by decide +kernel
theorem dX6_fails_2 : decode cX6_fails 2 = .ok (.putfield 64, 3) := by decide +kernel
theorem dX6_fails_5 : decode cX6_fails 5 = .ok (.iconst 0, 1) := by decide +kernel
theorem dX6_fails_6 : decode cX6_fails 6 = .ok (.ireturn, 1) := by decide +kernel
theorem dX6_in_0 : decode cX6_in 0 = .ok (.iload_n 0, 1) := by decide +kernel
theorem dX6_in_1 : decode cX6_in 1 = .ok (.iload_n 1, 1) := by decide +kernel
theorem dX6_in_2 : decode cX6_in 2 = .ok (.if_icmp .lt 12, 3) := by decide +kernel
theorem dX6_in_5 : decode cX6_in 5 = .ok (.iload_n 0, 1) := by decide +kernel
theorem dX6_in_6 : decode cX6_in 6 = .ok (.iload_n 2, 1) := by decide +kernel
theorem dX6_in_7 : decode cX6_in 7 = .ok (.if_icmp .gt 7, 3) := by decide +kernel
theorem dX6_in_10 : decode cX6_in 10 = .ok (.iconst 1, 1) := by decide +kernel
theorem dX6_in_11 : decode cX6_in 11 = .ok (.goto 4, 3) := by decide +kernel
theorem dX6_in_14 : decode cX6_in 14 = .ok (.iconst 0, 1) := by decide +kernel
theorem dX6_in_15 : decode cX6_in 15 = .ok (.ireturn, 1) := by decide +kernel
set_option maxRecDepth 20000 in
theorem ggX6_isShared_X6_in : GoodIn wsX6_isShared wsX6_in := goodIn_r _ [4] (by decide +kernel) (by decide +kernel)
set_option maxRecDepth 20000 in
theorem gX6_isShared_X6_in : GoodIn wsX6_isShared (va_wsS RX6 67 yX6_in wsX6_in) := goodIn_app (goodIn_of _ (by decide +kernel)) ggX6_isShared_X6_in
theorem dX6_isShared_0 : decode cX6_isShared 0 = .ok (.iload_n 0, 1) := by decide +kernel
theorem dX6_isShared_1 : decode cX6_isShared 1 = .ok (.iconst 5, 1) := by decide +kernel
theorem dX6_isShared_2 : decode cX6_isShared 2 = .ok (.bipush 12, 2) := by decide +kernel
theorem dX6_isShared_4 : decode cX6_isShared 4 = .ok (.invokestatic 67, 3) := by decide +kernel
theorem dX6_isShared_7 : decode cX6_isShared 7 = .ok (.ireturn, 1) := by decide +kernel
theorem dX6_isRosette_0 : decode cX6_isRosette 0 = .ok (.iload_n 0, 1) := by decide +kernel
theorem dX6_isRosette_1 : decode cX6_isRosette 1 = .ok (.iconst 4, 1) := by decide +kernel
theorem dX6_isRosette_2 : decode cX6_isRosette 2 = .ok (.if_icmp .eq 15, 3) := by decide +kernel
theorem dX6_isRosette_5 : decode cX6_isRosette 5 = .ok (.iload_n 0, 1) := by decide +kernel
theorem dX6_isRosette_6 : decode cX6_isRosette 6 = .ok (.bipush 8, 2) := by decide +kernel
theorem dX6_isRosette_8 : decode cX6_isRosette 8 = .ok (.if_icmp .eq 9, 3) := by decide +kernel
theorem dX6_isRosette_11 : decode cX6_isRosette 11 = .ok (.iload_n 0, 1) := by decide +kernel
theorem dX6_isRosette_12 : decode cX6_isRosette 12 = .ok (.bipush 14, 2) := by decide +kernel
theorem dX6_isRosette_14 : decode cX6_isRosette 14 = .ok (.if_icmp .ne 7, 3) := by decide +kernel
theorem dX6_isRosette_17 : decode cX6_isRosette 17 = .ok (.iconst 1, 1) := by decide +kernel
theorem dX6_isRosette_18 : decode cX6_isRosette 18 = .ok (.goto 4, 3) := by decide +kernel
theorem dX6_isRosette_21 : decode cX6_isRosette 21 = .ok (.iconst 0, 1) := by decide +kernel
theorem dX6_isRosette_22 : decode cX6_isRosette 22 = .ok (.ireturn, 1) := by decide +kernel
set_option maxRecDepth 20000 in
theorem ggX6_behindThrow_X6_isShared : GoodIn wsX6_behindThrow wsX6_isShared := goodIn_r _ [6, 7, 8, 5, 9] (by decide +kernel) (by decide +kernel)
set_option maxRecDepth 20000 in
theorem gX6_behindThrow_X6_isShared : GoodIn wsX6_behindThrow (va_wsS RX6 72 yX6_isShared wsX6_isShared) := goodIn_app (goodIn_of _ (by decide +kernel)) ggX6_behindThrow_X6_isShared
set_option maxRecDepth 20000 in
theorem ggX6_behindThrow_X6_isRosette : GoodIn wsX6_behindThrow wsX6_isRosette := goodIn_r _ [12] (by decide +kernel) (by decide +kernel)
set_option maxRecDepth 20000 in
theorem gX6_behindThrow_X6_isRosette : GoodIn wsX6_behindThrow (va_wsS RX6 76 yX6_isRosette wsX6_isRosette) := goodIn_app (goodIn_of _ (by decide +kernel)) ggX6_behindThrow_X6_isRosette
theorem dX6_behindThrow_0 : decode cX6_behindThrow 0 = .ok (.iload_n 1, 1) := by decide +kernel
theorem dX6_behindThrow_1 : decode cX6_behindThrow 1 = .ok (.iload_n 3, 1) := by decide +kernel
theorem dX6_behindThrow_2 : decode cX6_behindThrow 2 = .ok (.iadd, 1) := by decide +kernel
theorem dX6_behindThrow_3 : decode cX6_behindThrow 3 = .ok (.istore 4, 2) := by decide +kernel
theorem dX6_behindThrow_5 : decode cX6_behindThrow 5 = .ok (.iload_n 3, 1) := by decide +kernel
theorem dX6_behindThrow_6 : decode cX6_behindThrow 6 = .ok (.ifCond .eq 23, 3) := by decide +kernel
theorem dX6_behindThrow_9 : decode cX6_behindThrow 9 = .ok (.iload 4, 2) := by decide +kernel
theorem dX6_behindThrow_11 : decode cX6_behindThrow 11 = .ok (.bipush 15, 2) := by decide +kernel
theorem dX6_behindThrow_13 : decode cX6_behindThrow 13 = .ok (.if_icmp .gt 16, 3) := by decide +kernel
theorem dX6_behindThrow_16 : decode cX6_behindThrow 16 = .ok (.iload 4, 2) := by decide +kernel
theorem dX6_behindThrow_18 : decode cX6_behindThrow 18 = .ok (.bipush 8, 2) := by decide +kernel
theorem dX6_behindThrow_20 : decode cX6_behindThrow 20 = .ok (.if_icmp .ne 24, 3) := by decide +kernel
theorem dX6_behindThrow_23 : decode cX6_behindThrow 23 = .ok (.iload_n 2, 1) := by decide +kernel
theorem dX6_behindThrow_24 : decode cX6_behindThrow 24 = .ok (.bipush 8, 2) := by decide +kernel
theorem dX6_behindThrow_26 : decode cX6_behindThrow 26 = .ok (.if_icmp .ne 18, 3) := by decide +kernel
theorem dX6_behindThrow_29 : decode cX6_behindThrow 29 = .ok (.ldc 71, 2) := by decide +kernel
theorem dX6_behindThrow_31 : decode cX6_behindThrow 31 = .ok (.aload_n 0, 1) := by decide +kernel
theorem dX6_behindThrow_32 : decode cX6_behindThrow 32 = .ok (.getfield 29, 3) := by decide +kernel
theorem dX6_behindThrow_35 : decode cX6_behindThrow 35 = .ok (.bipush 15, 2) := by decide +kernel
theorem dX6_behindThrow_37 : decode cX6_behindThrow 37 = .ok (.iload_n 2, 1) := by decide +kernel
theorem dX6_behindThrow_38 : decode cX6_behindThrow 38 = .ok (.imul, 1) := by decide +kernel
theorem dX6_behindThrow_39 : decode cX6_behindThrow 39 = .ok (.iload_n 1, 1) := by decide +kernel
theorem dX6_behindThrow_40 : decode cX6_behindThrow 40 = .ok (.iadd, 1) := by decide +kernel
theorem dX6_behindThrow_41 : decode cX6_behindThrow 41 = .ok (.iaload, 1) := by decide +kernel
theorem dX6_behindThrow_42 : decode cX6_behindThrow 42 = .ok (.isub, 1) := by decide +kernel
theorem dX6_behindThrow_43 : decode cX6_behindThrow 43 = .ok (.ireturn, 1) := by decide +kernel
theorem dX6_behindThrow_44 : decode cX6_behindThrow 44 = .ok (.iload 4, 2) := by decide +kernel
theorem dX6_behindThrow_46 : decode cX6_behindThrow 46 = .ok (.bipush 15, 2) := by decide +kernel
theorem dX6_behindThrow_48 : decode cX6_behindThrow 48 = .ok (.if_icmp .ne 6, 3) := by decide +kernel
theorem dX6_behindThrow_51 : decode cX6_behindThrow 51 = .ok (.ldc 71, 2) := by decide +kernel
theorem dX6_behindThrow_53 : decode cX6_behindThrow 53 = .ok (.ireturn, 1) := by decide +kernel
theorem dX6_behindThrow_54 : decode cX6_behindThrow 54 = .ok (.iload 4, 2) := by decide +kernel
theorem dX6_behindThrow_56 : decode cX6_behindThrow 56 = .ok (.invokestatic 72, 3) := by decide +kernel
theorem dX6_behindThrow_59 : decode cX6_behindThrow 59 = .ok (.ifCond .eq 13, 3) := by decide +kernel
theorem dX6_behindThrow_62 : decode cX6_behindThrow 62 = .ok (.iload_n 2, 1) := by decide +kernel
theorem dX6_behindThrow_63 : decode cX6_behindThrow 63 = .ok (.iload 4, 2) := by decide +kernel
theorem dX6_behindThrow_65 : decode cX6_behindThrow 65 = .ok (.if_icmp .ne 7, 3) := by decide +kernel
theorem dX6_behindThrow_68 : decode cX6_behindThrow 68 = .ok (.iconst 0, 1) := by decide +kernel
theorem dX6_behindThrow_69 : decode cX6_behindThrow 69 = .ok (.goto 4, 3) := by decide +kernel
theorem dX6_behindThrow_72 : decode cX6_behindThrow 72 = .ok (.iload_n 2, 1) := by decide +kernel
theorem dX6_behindThrow_73 : decode cX6_behindThrow 73 = .ok (.istore 5, 2) := by decide +kernel
theorem dX6_behindThrow_75 : decode cX6_behindThrow 75 = .ok (.iload 4, 2) := by decide +kernel
theorem dX6_behindThrow_77 : decode cX6_behindThrow 77 = .ok (.invokestatic 76, 3) := by decide +kernel
theorem dX6_behindThrow_80 : decode cX6_behindThrow 80 = .ok (.ifCond .eq 19, 3) := by decide +kernel
theorem dX6_behindThrow_83 : decode cX6_behindThrow 83 = .ok (.aload_n 0, 1) := by decide +kernel
theorem dX6_behindThrow_84 : decode cX6_behindThrow 84 = .ok (.getfield 29, 3) := by decide +kernel
theorem dX6_behindThrow_87 : decode cX6_behindThrow 87 = .ok (.bipush 15, 2) := by decide +kernel
theorem dX6_behindThrow_89 : decode cX6_behindThrow 89 = .ok (.iload 4, 2) := by decide +kernel
theorem dX6_behindThrow_91 : decode cX6_behindThrow 91 = .ok (.imul, 1) := by decide +kernel
theorem dX6_behindThrow_92 : decode cX6_behindThrow 92 = .ok (.iload 5, 2) := by decide +kernel
theorem dX6_behindThrow_94 : decode cX6_behindThrow 94 = .ok (.iadd, 1) := by decide +kernel
theorem dX6_behindThrow_95 : decode cX6_behindThrow 95 = .ok (.iaload, 1) := by decide +kernel
theorem dX6_behindThrow_96 : decode cX6_behindThrow 96 = .ok (.goto 19, 3) := by decide +kernel
theorem dX6_behindThrow_99 : decode cX6_behindThrow 99 = .ok (.ldc 71, 2) := by decide +kernel
theorem dX6_behindThrow_101 : decode cX6_behindThrow 101 = .ok (.aload_n 0, 1) := by decide +kernel
theorem dX6_behindThrow_102 : decode cX6_behindThrow 102 = .ok (.getfield 29, 3) := by decide +kernel
theorem dX6_behindThrow_105 : decode cX6_behindThrow 105 = .ok (.bipush 15, 2) := by decide +kernel
theorem dX6_behindThrow_107 : decode cX6_behindThrow 107 = .ok (.iload 5, 2) := by decide +kernel
theorem dX6_behindThrow_109 : decode cX6_behindThrow 109 = .ok (.imul, 1) := by decide +kernel
theorem dX6_behindThrow_110 : decode cX6_behindThrow 110 = .ok (.iload 4, 2) := by decide +kernel
theorem dX6_behindThrow_112 : decode cX6_behindThrow 112 = .ok (.iadd, 1) := by decide +kernel
theorem dX6_behindThrow_113 : decode cX6_behindThrow 113 = .ok (.iaload, 1) := by decide +kernel
theorem dX6_behindThrow_114 : decode cX6_behindThrow 114 = .ok (.isub, 1) := by decide +kernel
theorem dX6_behindThrow_115 : decode cX6_behindThrow 115 = .ok (.ireturn, 1) := by decide +kernel
set_option maxRecDepth 20000 in
theorem ggX6_layTable_X6_behindThrow : GoodIn wsX6_layTable wsX6_behindThrow := goodIn_r _ [10, 11, 3, 12, 13, 9, 14, 15, 16, 17, 18, 19, 20, 21, 22, 23, 24, 25, 26, 27, 28, 29, 30, 31, 32, 33, 34, 35, 36, 37, 38, 39] (by decide +kernel) (by decide +kernel)
set_option maxRecDepth 20000 in
theorem gX6_layTable_X6_behindThrow : GoodIn wsX6_layTable (wsV RX6 80 RX6 yX6_behindThrow wsX6_behindThrow) := goodIn_app (goodIn_of _ (by decide +kernel)) ggX6_layTable_X6_behindThrow
theorem dX6_layTable_0 : decode cX6_layTable 0 = .ok (.iconst 0, 1) := by decide +kernel
theorem dX6_layTable_1 : decode cX6_layTable 1 = .ok (.istore_n 2, 1) := by decide +kernel
theorem dX6_layTable_2 : decode cX6_layTable 2 = .ok (.iload_n 2, 1) := by decide +kernel
theorem dX6_layTable_3 : decode cX6_layTable 3 = .ok (.sipush 225, 3) := by decide +kernel
theorem dX6_layTable_6 : decode cX6_layTable 6 = .ok (.if_icmp .ge 17, 3) := by decide +kernel
theorem dX6_layTable_9 : decode cX6_layTable 9 = .ok (.aload_n 0, 1) := by decide +kernel
theorem dX6_layTable_10 : decode cX6_layTable 10 = .ok (.getfield 26, 3) := by decide +kernel
theorem dX6_layTable_13 : decode cX6_layTable 13 = .ok (.iload_n 2, 1) := by decide +kernel
theorem dX6_layTable_14 : decode cX6_layTable 14 = .ok (.ldc 79, 2) := by decide +kernel
theorem dX6_layTable_16 : decode cX6_layTable 16 = .ok (.iastore, 1) := by decide +kernel
theorem dX6_layTable_17 : decode cX6_layTable 17 = .ok (.iinc 2 1, 3) := by decide +kernel
theorem dX6_layTable_20 : decode cX6_layTable 20 = .ok (.goto (-18), 3) := by decide +kernel
theorem dX6_layTable_23 : decode cX6_layTable 23 = .ok (.iconst 0, 1) := by decide +kernel
theorem dX6_layTable_24 : decode cX6_layTable 24 = .ok (.istore_n 2, 1) := by decide +kernel
theorem dX6_layTable_25 : decode cX6_layTable 25 = .ok (.iload_n 2, 1) := by decide +kernel
theorem dX6_layTable_26 : decode cX6_layTable 26 = .ok (.iload_n 1, 1) := by decide +kernel
theorem dX6_layTable_27 : decode cX6_layTable 27 = .ok (.if_icmp .ge 111, 3) := by decide +kernel
theorem dX6_layTable_30 : decode cX6_layTable 30 = .ok (.iconst 0, 1) := by decide +kernel
theorem dX6_layTable_31 : decode cX6_layTable 31 = .ok (.istore_n 3, 1) := by decide +kernel
theorem dX6_layTable_32 : decode cX6_layTable 32 = .ok (.iload_n 3, 1) := by decide +kernel
theorem dX6_layTable_33 : decode cX6_layTable 33 = .ok (.sipush 225, 3) := by decide +kernel
theorem dX6_layTable_36 : decode cX6_layTable 36 = .ok (.if_icmp .ge 21, 3) := by decide +kernel
theorem dX6_layTable_39 : decode cX6_layTable 39 = .ok (.aload_n 0, 1) := by decide +kernel
theorem dX6_layTable_40 : decode cX6_layTable 40 = .ok (.getfield 29, 3) := by decide +kernel
theorem dX6_layTable_43 : decode cX6_layTable 43 = .ok (.iload_n 3, 1) := by decide +kernel
theorem dX6_layTable_44 : decode cX6_layTable 44 = .ok (.aload_n 0, 1) := by decide +kernel
theorem dX6_layTable_45 : decode cX6_layTable 45 = .ok (.getfield 26, 3) := by decide +kernel
theorem dX6_layTable_48 : decode cX6_layTable 48 = .ok (.iload_n 3, 1) := by decide +kernel
theorem dX6_layTable_49 : decode cX6_layTable 49 = .ok (.iaload, 1) := by decide +kernel
theorem dX6_layTable_50 : decode cX6_layTable 50 = .ok (.iastore, 1) := by decide +kernel
theorem dX6_layTable_51 : decode cX6_layTable 51 = .ok (.iinc 3 1, 3) := by decide +kernel
theorem dX6_layTable_54 : decode cX6_layTable 54 = .ok (.goto (-22), 3) := by decide +kernel
theorem dX6_layTable_57 : decode cX6_layTable 57 = .ok (.iconst 0, 1) := by decide +kernel
theorem dX6_layTable_58 : decode cX6_layTable 58 = .ok (.istore_n 3, 1) := by decide +kernel
theorem dX6_layTable_59 : decode cX6_layTable 59 = .ok (.iload_n 3, 1) := by decide +kernel
theorem dX6_layTable_60 : decode cX6_layTable 60 = .ok (.sipush 225, 3) := by decide +kernel
theorem dX6_layTable_63 : decode cX6_layTable 63 = .ok (.if_icmp .ge 69, 3) := by decide +kernel
theorem dX6_layTable_66 : decode cX6_layTable 66 = .ok (.lconst 0, 1) := by decide +kernel
theorem dX6_layTable_67 : decode cX6_layTable 67 = .ok (.lstore 4, 2) := by decide +kernel
theorem dX6_layTable_69 : decode cX6_layTable 69 = .ok (.iconst 0, 1) := by decide +kernel
theorem dX6_layTable_70 : decode cX6_layTable 70 = .ok (.istore 6, 2) := by decide +kernel
theorem dX6_layTable_72 : decode cX6_layTable 72 = .ok (.iload 6, 2) := by decide +kernel
theorem dX6_layTable_74 : decode cX6_layTable 74 = .ok (.iconst 5, 1) := by decide +kernel
theorem dX6_layTable_75 : decode cX6_layTable 75 = .ok (.if_icmp .ge 38, 3) := by decide +kernel
theorem dX6_layTable_78 : decode cX6_layTable 78 = .ok (.lload 4, 2) := by decide +kernel
theorem dX6_layTable_80 : decode cX6_layTable 80 = .ok (.aload_n 0, 1) := by decide +kernel
theorem dX6_layTable_81 : decode cX6_layTable 81 = .ok (.getfield 23, 3) := by decide +kernel
theorem dX6_layTable_84 : decode cX6_layTable 84 = .ok (.iload 6, 2) := by decide +kernel
theorem dX6_layTable_86 : decode cX6_layTable 86 = .ok (.iaload, 1) := by decide +kernel
theorem dX6_layTable_87 : decode cX6_layTable 87 = .ok (.i2l, 1) := by decide +kernel
theorem dX6_layTable_88 : decode cX6_layTable 88 = .ok (.aload_n 0, 1) := by decide +kernel
theorem dX6_layTable_89 : decode cX6_layTable 89 = .ok (.iload_n 3, 1) := by decide +kernel
theorem dX6_layTable_90 : decode cX6_layTable 90 = .ok (.bipush 15, 2) := by decide +kernel
theorem dX6_layTable_92 : decode cX6_layTable 92 = .ok (.idiv, 1) := by decide +kernel
theorem dX6_layTable_93 : decode cX6_layTable 93 = .ok (.iload_n 3, 1) := by decide +kernel
theorem dX6_layTable_94 : decode cX6_layTable 94 = .ok (.bipush 15, 2) := by decide +kernel
theorem dX6_layTable_96 : decode cX6_layTable 96 = .ok (.irem, 1) := by decide +kernel
theorem dX6_layTable_97 : decode cX6_layTable 97 = .ok (.iload 6, 2) := by decide +kernel
theorem dX6_layTable_99 : decode cX6_layTable 99 = .ok (.invokevirtual 80, 3) := by decide +kernel
theorem dX6_layTable_102 : decode cX6_layTable 102 = .ok (.i2l, 1) := by decide +kernel
theorem dX6_layTable_103 : decode cX6_layTable 103 = .ok (.lmul, 1) := by decide +kernel
theorem dX6_layTable_104 : decode cX6_layTable 104 = .ok (.ladd, 1) := by decide +kernel
theorem dX6_layTable_105 : decode cX6_layTable 105 = .ok (.lstore 4, 2) := by decide +kernel
theorem dX6_layTable_107 : decode cX6_layTable 107 = .ok (.iinc 6 1, 3) := by decide +kernel
theorem dX6_layTable_110 : decode cX6_layTable 110 = .ok (.goto (-38), 3) := by decide +kernel
theorem dX6_layTable_113 : decode cX6_layTable 113 = .ok (.aload_n 0, 1) := by decide +kernel
theorem dX6_layTable_114 : decode cX6_layTable 114 = .ok (.getfield 26, 3) := by decide +kernel
theorem dX6_layTable_117 : decode cX6_layTable 117 = .ok (.iload_n 3, 1) := by decide +kernel
theorem dX6_layTable_118 : decode cX6_layTable 118 = .ok (.lload 4, 2) := by decide +kernel
theorem dX6_layTable_120 : decode cX6_layTable 120 = .ok (.ldc2_w 84, 3) := by decide +kernel
theorem dX6_layTable_123 : decode cX6_layTable 123 = .ok (.ldiv, 1) := by decide +kernel
theorem dX6_layTable_124 : decode cX6_layTable 124 = .ok (.l2i, 1) := by decide +kernel
theorem dX6_layTable_125 : decode cX6_layTable 125 = .ok (.iastore, 1) := by decide +kernel
theorem dX6_layTable_126 : decode cX6_layTable 126 = .ok (.iinc 3 1, 3) := by decide +kernel
theorem dX6_layTable_129 : decode cX6_layTable 129 = .ok (.goto (-70), 3) := by decide +kernel
theorem dX6_layTable_132 : decode cX6_layTable 132 = .ok (.iinc 2 1, 3) := by decide +kernel
theorem dX6_layTable_135 : decode cX6_layTable 135 = .ok (.goto (-110), 3) := by decide +kernel
theorem dX6_layTable_138 : decode cX6_layTable 138 = .ok (.return_, 1) := by decide +kernel
set_option maxRecDepth 20000 in
theorem ggX6_ended_X6_in : GoodIn wsX6_ended wsX6_in := goodIn_r _ [6] (by decide +kernel) (by decide +kernel)
set_option maxRecDepth 20000 in
theorem gX6_ended_X6_in : GoodIn wsX6_ended (va_wsS RX6 67 yX6_in wsX6_in) := goodIn_app (goodIn_of _ (by decide +kernel)) ggX6_ended_X6_in
set_option maxRecDepth 20000 in
theorem ggX6_ended_X6_isShared : GoodIn wsX6_ended wsX6_isShared := goodIn_r _ [9, 3, 4, 5, 6] (by decide +kernel) (by decide +kernel)
set_option maxRecDepth 20000 in
theorem gX6_ended_X6_isShared : GoodIn wsX6_ended (va_wsS RX6 72 yX6_isShared wsX6_isShared) := goodIn_app (goodIn_of _ (by decide +kernel)) ggX6_ended_X6_isShared
set_option maxRecDepth 20000 in
theorem ggX6_ended_X6_layTable : GoodIn wsX6_ended wsX6_layTable := goodIn_r _ [13, 2, 14, 15, 16, 17, 18, 19, 20, 5, 21, 22, 7, 8, 9, 3, 4, 6, 23, 24, 25, 26, 27, 28, 29, 30, 31, 32, 33, 34, 35, 36, 37, 38, 39, 40, 41, 42, 43, 44] (by decide +kernel) (by decide +kernel)
set_option maxRecDepth 20000 in
theorem gX6_ended_X6_layTable : GoodIn wsX6_ended (wsV RX6 57 RX6 yX6_layTable wsX6_layTable) := goodIn_app (goodIn_of _ (by decide +kernel)) ggX6_ended_X6_layTable
theorem dX6_ended_0 : decode cX6_ended 0 = .ok (.aload_n 0, 1) := by decide +kernel
theorem dX6_ended_1 : decode cX6_ended 1 = .ok (.iload_n 1, 1) := by decide +kernel
theorem dX6_ended_2 : decode cX6_ended 2 = .ok (.iconst 0, 1) := by decide +kernel
theorem dX6_ended_3 : decode cX6_ended 3 = .ok (.bipush 14, 2) := by decide +kernel
theorem dX6_ended_5 : decode cX6_ended 5 = .ok (.invokestatic 67, 3) := by decide +kernel
theorem dX6_ended_8 : decode cX6_ended 8 = .ok (.ifCond .eq 39, 3) := by decide +kernel
theorem dX6_ended_11 : decode cX6_ended 11 = .ok (.iload_n 2, 1) := by decide +kernel
theorem dX6_ended_12 : decode cX6_ended 12 = .ok (.iconst 0, 1) := by decide +kernel
theorem dX6_ended_13 : decode cX6_ended 13 = .ok (.bipush 14, 2) := by decide +kernel
theorem dX6_ended_15 : decode cX6_ended 15 = .ok (.invokestatic 67, 3) := by decide +kernel
theorem dX6_ended_18 : decode cX6_ended 18 = .ok (.ifCond .eq 29, 3) := by decide +kernel
theorem dX6_ended_21 : decode cX6_ended 21 = .ok (.iload_n 3, 1) := by decide +kernel
theorem dX6_ended_22 : decode cX6_ended 22 = .ok (.iconst 0, 1) := by decide +kernel
theorem dX6_ended_23 : decode cX6_ended 23 = .ok (.iload 4, 2) := by decide +kernel
theorem dX6_ended_25 : decode cX6_ended 25 = .ok (.invokestatic 67, 3) := by decide +kernel
theorem dX6_ended_28 : decode cX6_ended 28 = .ok (.ifCond .eq 19, 3) := by decide +kernel
theorem dX6_ended_31 : decode cX6_ended 31 = .ok (.iload_n 1, 1) := by decide +kernel
theorem dX6_ended_32 : decode cX6_ended 32 = .ok (.iload_n 2, 1) := by decide +kernel
theorem dX6_ended_33 : decode cX6_ended 33 = .ok (.if_icmp .ne 10, 3) := by decide +kernel
theorem dX6_ended_36 : decode cX6_ended 36 = .ok (.iload_n 1, 1) := by decide +kernel
theorem dX6_ended_37 : decode cX6_ended 37 = .ok (.invokestatic 72, 3) := by decide +kernel
theorem dX6_ended_40 : decode cX6_ended 40 = .ok (.ifCond .ne 7, 3) := by decide +kernel
theorem dX6_ended_43 : decode cX6_ended 43 = .ok (.iconst 0, 1) := by decide +kernel
theorem dX6_ended_44 : decode cX6_ended 44 = .ok (.goto 4, 3) := by decide +kernel
theorem dX6_ended_47 : decode cX6_ended 47 = .ok (.iconst 1, 1) := by decide +kernel
theorem dX6_ended_48 : decode cX6_ended 48 = .ok (.putfield 64, 3) := by decide +kernel
theorem dX6_ended_51 : decode cX6_ended 51 = .ok (.aload_n 0, 1) := by decide +kernel
theorem dX6_ended_52 : decode cX6_ended 52 = .ok (.getfield 64, 3) := by decide +kernel
theorem dX6_ended_55 : decode cX6_ended 55 = .ok (.ifCond .le 5, 3) := by decide +kernel
theorem dX6_ended_58 : decode cX6_ended 58 = .ok (.iconst 0, 1) := by decide +kernel
theorem dX6_ended_59 : decode cX6_ended 59 = .ok (.ireturn, 1) := by decide +kernel
theorem dX6_ended_60 : decode cX6_ended 60 = .ok (.aload_n 0, 1) := by decide +kernel
theorem dX6_ended_61 : decode cX6_ended 61 = .ok (.iload_n 3, 1) := by decide +kernel
theorem dX6_ended_62 : decode cX6_ended 62 = .ok (.invokevirtual 57, 3) := by decide +kernel
theorem dX6_ended_65 : decode cX6_ended 65 = .ok (.aload_n 0, 1) := by decide +kernel
theorem dX6_ended_66 : decode cX6_ended 66 = .ok (.getfield 26, 3) := by decide +kernel
theorem dX6_ended_69 : decode cX6_ended 69 = .ok (.bipush 15, 2) := by decide +kernel
theorem dX6_ended_71 : decode cX6_ended 71 = .ok (.iload_n 1, 1) := by decide +kernel
theorem dX6_ended_72 : decode cX6_ended 72 = .ok (.imul, 1) := by decide +kernel
theorem dX6_ended_73 : decode cX6_ended 73 = .ok (.iload_n 2, 1) := by decide +kernel
theorem dX6_ended_74 : decode cX6_ended 74 = .ok (.iadd, 1) := by decide +kernel
theorem dX6_ended_75 : decode cX6_ended 75 = .ok (.iaload, 1) := by decide +kernel
theorem dX6_ended_76 : decode cX6_ended 76 = .ok (.ireturn, 1) := by decide +kernel
set_option maxRecDepth 20000 in
theorem ggX6_ending_X6_ended : GoodIn wsX6_ending wsX6_ended := goodIn_r _ [5, 6, 7, 8, 9, 4, 10, 11, 12, 13, 14, 15, 16, 17, 18, 19, 20, 21, 22, 23, 24, 25, 26, 27, 28, 29, 30, 31, 32, 33, 34, 35, 36, 37, 38, 39, 40, 41, 42, 43, 44, 45, 46, 47, 48] (by decide +kernel) (by decide +kernel)
set_option maxRecDepth 20000 in
theorem gX6_ending_X6_ended : GoodIn wsX6_ending (wsV RX6 86 RX6 yX6_ended wsX6_ended) := goodIn_app (goodIn_of _ (by decide +kernel)) ggX6_ending_X6_ended
theorem dX6_ending_0 : decode cX6_ending 0 = .ok (.aload_n 0, 1) := by decide +kernel
theorem dX6_ending_1 : decode cX6_ending 1 = .ok (.iload_n 1, 1) := by decide +kernel
theorem dX6_ending_2 : decode cX6_ending 2 = .ok (.iload_n 2, 1) := by decide +kernel
theorem dX6_ending_3 : decode cX6_ending 3 = .ok (.iload_n 3, 1) := by decide +kernel
theorem dX6_ending_4 : decode cX6_ending 4 = .ok (.bipush 60, 2) := by decide +kernel
theorem dX6_ending_6 : decode cX6_ending 6 = .ok (.invokevirtual 86, 3) := by decide +kernel
theorem dX6_ending_9 : decode cX6_ending 9 = .ok (.ireturn, 1) := by decide +kernel
set_option maxRecDepth 20000 in
theorem ggX6_endingByThrows_X6_ended : GoodIn wsX6_endingByThrows wsX6_ended := goodIn_r _ [5, 6, 7, 8, 9, 4, 10, 11, 12, 13, 14, 15, 16, 17, 18, 19, 20, 21, 22, 23, 24, 25, 26, 27, 28, 29, 30, 31, 32, 33, 34, 35, 36, 37, 38, 39, 40, 41, 42, 43, 44, 45, 46, 47, 48] (by decide +kernel) (by decide +kernel)
set_option maxRecDepth 20000 in
theorem gX6_endingByThrows_X6_ended : GoodIn wsX6_endingByThrows (wsV RX6 86 RX6 yX6_ended wsX6_ended) := goodIn_app (goodIn_of _ (by decide +kernel)) ggX6_endingByThrows_X6_ended
theorem dX6_endingByThrows_0 : decode cX6_endingByThrows 0 = .ok (.aload_n 0, 1) := by decide +kernel
theorem dX6_endingByThrows_1 : decode cX6_endingByThrows 1 = .ok (.iload_n 1, 1) := by decide +kernel
theorem dX6_endingByThrows_2 : decode cX6_endingByThrows 2 = .ok (.iload_n 2, 1) := by decide +kernel
theorem dX6_endingByThrows_3 : decode cX6_endingByThrows 3 = .ok (.iload_n 3, 1) := by decide +kernel
theorem dX6_endingByThrows_4 : decode cX6_endingByThrows 4 = .ok (.iconst 5, 1) := by decide +kernel
theorem dX6_endingByThrows_5 : decode cX6_endingByThrows 5 = .ok (.invokevirtual 86, 3) := by decide +kernel
theorem dX6_endingByThrows_8 : decode cX6_endingByThrows 8 = .ok (.ireturn, 1) := by decide +kernel
theorem dX6_canMove_0 : decode cX6_canMove 0 = .ok (.iload_n 3, 1) := by decide +kernel
theorem dX6_canMove_1 : decode cX6_canMove 1 = .ok (.iload 4, 2) := by decide +kernel
theorem dX6_canMove_3 : decode cX6_canMove 3 = .ok (.iadd, 1) := by decide +kernel
theorem dX6_canMove_4 : decode cX6_canMove 4 = .ok (.istore 5, 2) := by decide +kernel
theorem dX6_canMove_6 : decode cX6_canMove 6 = .ok (.iload 4, 2) := by decide +kernel
theorem dX6_canMove_8 : decode cX6_canMove 8 = .ok (.ifCond .eq 23, 3) := by decide +kernel
theorem dX6_canMove_11 : decode cX6_canMove 11 = .ok (.iload 5, 2) := by decide +kernel
theorem dX6_canMove_13 : decode cX6_canMove 13 = .ok (.bipush 15, 2) := by decide +kernel
theorem dX6_canMove_15 : decode cX6_canMove 15 = .ok (.if_icmp .gt 16, 3) := by decide +kernel
theorem dX6_canMove_18 : decode cX6_canMove 18 = .ok (.aload_n 0, 1) := by decide +kernel
theorem dX6_canMove_19 : decode cX6_canMove 19 = .ok (.iload_n 1, 1) := by decide +kernel
theorem dX6_canMove_20 : decode cX6_canMove 20 = .ok (.bipush 16, 2) := by decide +kernel
theorem dX6_canMove_22 : decode cX6_canMove 22 = .ok (.iload_n 2, 1) := by decide +kernel
theorem dX6_canMove_23 : decode cX6_canMove 23 = .ok (.imul, 1) := by decide +kernel
theorem dX6_canMove_24 : decode cX6_canMove 24 = .ok (.iadd, 1) := by decide +kernel
theorem dX6_canMove_25 : decode cX6_canMove 25 = .ok (.iload_n 3, 1) := by decide +kernel
theorem dX6_canMove_26 : decode cX6_canMove 26 = .ok (.iadd, 1) := by decide +kernel
theorem dX6_canMove_27 : decode cX6_canMove 27 = .ok (.iaload, 1) := by decide +kernel
theorem dX6_canMove_28 : decode cX6_canMove 28 = .ok (.ifCond .ne 5, 3) := by decide +kernel
theorem dX6_canMove_31 : decode cX6_canMove 31 = .ok (.iconst 0, 1) := by decide +kernel
theorem dX6_canMove_32 : decode cX6_canMove 32 = .ok (.ireturn, 1) := by decide +kernel
theorem dX6_canMove_33 : decode cX6_canMove 33 = .ok (.iload 5, 2) := by decide +kernel
theorem dX6_canMove_35 : decode cX6_canMove 35 = .ok (.bipush 15, 2) := by decide +kernel
theorem dX6_canMove_37 : decode cX6_canMove 37 = .ok (.if_icmp .ge 21, 3) := by decide +kernel
theorem dX6_canMove_40 : decode cX6_canMove 40 = .ok (.aload_n 0, 1) := by decide +kernel
theorem dX6_canMove_41 : decode cX6_canMove 41 = .ok (.iload_n 1, 1) := by decide +kernel
theorem dX6_canMove_42 : decode cX6_canMove 42 = .ok (.bipush 16, 2) := by decide +kernel
theorem dX6_canMove_44 : decode cX6_canMove 44 = .ok (.iload_n 2, 1) := by decide +kernel
theorem dX6_canMove_45 : decode cX6_canMove 45 = .ok (.imul, 1) := by decide +kernel
theorem dX6_canMove_46 : decode cX6_canMove 46 = .ok (.iadd, 1) := by decide +kernel
theorem dX6_canMove_47 : decode cX6_canMove 47 = .ok (.iload 5, 2) := by decide +kernel
theorem dX6_canMove_49 : decode cX6_canMove 49 = .ok (.iadd, 1) := by decide +kernel
theorem dX6_canMove_50 : decode cX6_canMove 50 = .ok (.iaload, 1) := by decide +kernel
theorem dX6_canMove_51 : decode cX6_canMove 51 = .ok (.ifCond .le 7, 3) := by decide +kernel
theorem dX6_canMove_54 : decode cX6_canMove 54 = .ok (.iconst 1, 1) := by decide +kernel
theorem dX6_canMove_55 : decode cX6_canMove 55 = .ok (.goto 4, 3) := by decide +kernel
theorem dX6_canMove_58 : decode cX6_canMove 58 = .ok (.iconst 0, 1) := by decide +kernel
theorem dX6_canMove_59 : decode cX6_canMove 59 = .ok (.istore 6, 2) := by decide +kernel
theorem dX6_canMove_61 : decode cX6_canMove 61 = .ok (.iload 6, 2) := by decide +kernel
theorem dX6_canMove_63 : decode cX6_canMove 63 = .ok (.ifCond .ne 31, 3) := by decide +kernel
theorem dX6_canMove_66 : decode cX6_canMove 66 = .ok (.iload 5, 2) := by decide +kernel
theorem dX6_canMove_68 : decode cX6_canMove 68 = .ok (.bipush 8, 2) := by decide +kernel
theorem dX6_canMove_70 : decode cX6_canMove 70 = .ok (.if_icmp .ne 20, 3) := by decide +kernel
theorem dX6_canMove_73 : decode cX6_canMove 73 = .ok (.aload_n 0, 1) := by decide +kernel
theorem dX6_canMove_74 : decode cX6_canMove 74 = .ok (.iload_n 1, 1) := by decide +kernel
theorem dX6_canMove_75 : decode cX6_canMove 75 = .ok (.bipush 16, 2) := by decide +kernel
theorem dX6_canMove_77 : decode cX6_canMove 77 = .ok (.iadd, 1) := by decide +kernel
theorem dX6_canMove_78 : decode cX6_canMove 78 = .ok (.bipush 16, 2) := by decide +kernel
theorem dX6_canMove_80 : decode cX6_canMove 80 = .ok (.iload_n 2, 1) := by decide +kernel
theorem dX6_canMove_81 : decode cX6_canMove 81 = .ok (.imul, 1) := by decide +kernel
theorem dX6_canMove_82 : decode cX6_canMove 82 = .ok (.isub, 1) := by decide +kernel
theorem dX6_canMove_83 : decode cX6_canMove 83 = .ok (.bipush 8, 2) := by decide +kernel
theorem dX6_canMove_85 : decode cX6_canMove 85 = .ok (.iadd, 1) := by decide +kernel
theorem dX6_canMove_86 : decode cX6_canMove 86 = .ok (.iaload, 1) := by decide +kernel
theorem dX6_canMove_87 : decode cX6_canMove 87 = .ok (.ifCond .ne 7, 3) := by decide +kernel
theorem dX6_canMove_90 : decode cX6_canMove 90 = .ok (.iconst 1, 1) := by decide +kernel
theorem dX6_canMove_91 : decode cX6_canMove 91 = .ok (.goto 4, 3) := by decide +kernel
theorem dX6_canMove_94 : decode cX6_canMove 94 = .ok (.iconst 0, 1) := by decide +kernel
theorem dX6_canMove_95 : decode cX6_canMove 95 = .ok (.ireturn, 1) := by decide +kernel
set_option maxRecDepth 20000 in
theorem ggX6_shifts_X6_isShared : GoodIn wsX6_shifts wsX6_isShared := goodIn_r _ [4, 5, 6, 3, 7] (by decide +kernel) (by decide +kernel)
set_option maxRecDepth 20000 in
theorem gX6_shifts_X6_isShared : GoodIn wsX6_shifts (va_wsS RX6 72 yX6_isShared wsX6_isShared) := goodIn_app (goodIn_of _ (by decide +kernel)) ggX6_shifts_X6_isShared
theorem dX6_shifts_0 : decode cX6_shifts 0 = .ok (.iload_n 3, 1) := by decide +kernel
theorem dX6_shifts_1 : decode cX6_shifts 1 = .ok (.iload 4, 2) := by decide +kernel
theorem dX6_shifts_3 : decode cX6_shifts 3 = .ok (.iadd, 1) := by decide +kernel
theorem dX6_shifts_4 : decode cX6_shifts 4 = .ok (.istore 5, 2) := by decide +kernel
theorem dX6_shifts_6 : decode cX6_shifts 6 = .ok (.iload_n 1, 1) := by decide +kernel
theorem dX6_shifts_7 : decode cX6_shifts 7 = .ok (.bipush 16, 2) := by decide +kernel
theorem dX6_shifts_9 : decode cX6_shifts 9 = .ok (.iadd, 1) := by decide +kernel
theorem dX6_shifts_10 : decode cX6_shifts 10 = .ok (.bipush 16, 2) := by decide +kernel
theorem dX6_shifts_12 : decode cX6_shifts 12 = .ok (.iload_n 2, 1) := by decide +kernel
theorem dX6_shifts_13 : decode cX6_shifts 13 = .ok (.imul, 1) := by decide +kernel
theorem dX6_shifts_14 : decode cX6_shifts 14 = .ok (.isub, 1) := by decide +kernel
theorem dX6_shifts_15 : decode cX6_shifts 15 = .ok (.istore 6, 2) := by decide +kernel
theorem dX6_shifts_17 : decode cX6_shifts 17 = .ok (.aload_n 0, 1) := by decide +kernel
theorem dX6_shifts_18 : decode cX6_shifts 18 = .ok (.iload_n 1, 1) := by decide +kernel
theorem dX6_shifts_19 : decode cX6_shifts 19 = .ok (.bipush 16, 2) := by decide +kernel
theorem dX6_shifts_21 : decode cX6_shifts 21 = .ok (.iload_n 2, 1) := by decide +kernel
theorem dX6_shifts_22 : decode cX6_shifts 22 = .ok (.imul, 1) := by decide +kernel
theorem dX6_shifts_23 : decode cX6_shifts 23 = .ok (.iadd, 1) := by decide +kernel
theorem dX6_shifts_24 : decode cX6_shifts 24 = .ok (.iload_n 3, 1) := by decide +kernel
theorem dX6_shifts_25 : decode cX6_shifts 25 = .ok (.iadd, 1) := by decide +kernel
theorem dX6_shifts_26 : decode cX6_shifts 26 = .ok (.dup2, 1) := by decide +kernel
theorem dX6_shifts_27 : decode cX6_shifts 27 = .ok (.iaload, 1) := by decide +kernel
theorem dX6_shifts_28 : decode cX6_shifts 28 = .ok (.iconst 1, 1) := by decide +kernel
theorem dX6_shifts_29 : decode cX6_shifts 29 = .ok (.isub, 1) := by decide +kernel
theorem dX6_shifts_30 : decode cX6_shifts 30 = .ok (.iastore, 1) := by decide +kernel
theorem dX6_shifts_31 : decode cX6_shifts 31 = .ok (.aload_n 0, 1) := by decide +kernel
theorem dX6_shifts_32 : decode cX6_shifts 32 = .ok (.iload_n 1, 1) := by decide +kernel
theorem dX6_shifts_33 : decode cX6_shifts 33 = .ok (.bipush 16, 2) := by decide +kernel
theorem dX6_shifts_35 : decode cX6_shifts 35 = .ok (.iload_n 2, 1) := by decide +kernel
theorem dX6_shifts_36 : decode cX6_shifts 36 = .ok (.imul, 1) := by decide +kernel
theorem dX6_shifts_37 : decode cX6_shifts 37 = .ok (.iadd, 1) := by decide +kernel
theorem dX6_shifts_38 : decode cX6_shifts 38 = .ok (.iload 5, 2) := by decide +kernel
theorem dX6_shifts_40 : decode cX6_shifts 40 = .ok (.iadd, 1) := by decide +kernel
theorem dX6_shifts_41 : decode cX6_shifts 41 = .ok (.dup2, 1) := by decide +kernel
theorem dX6_shifts_42 : decode cX6_shifts 42 = .ok (.iaload, 1) := by decide +kernel
theorem dX6_shifts_43 : decode cX6_shifts 43 = .ok (.iconst 1, 1) := by decide +kernel
theorem dX6_shifts_44 : decode cX6_shifts 44 = .ok (.iadd, 1) := by decide +kernel
theorem dX6_shifts_45 : decode cX6_shifts 45 = .ok (.iastore, 1) := by decide +kernel
theorem dX6_shifts_46 : decode cX6_shifts 46 = .ok (.iload 5, 2) := by decide +kernel
theorem dX6_shifts_48 : decode cX6_shifts 48 = .ok (.invokestatic 72, 3) := by decide +kernel
theorem dX6_shifts_51 : decode cX6_shifts 51 = .ok (.ifCond .eq 17, 3) := by decide +kernel
theorem dX6_shifts_54 : decode cX6_shifts 54 = .ok (.aload_n 0, 1) := by decide +kernel
theorem dX6_shifts_55 : decode cX6_shifts 55 = .ok (.iload 6, 2) := by decide +kernel
theorem dX6_shifts_57 : decode cX6_shifts 57 = .ok (.iload 5, 2) := by decide +kernel
theorem dX6_shifts_59 : decode cX6_shifts 59 = .ok (.iadd, 1) := by decide +kernel
theorem dX6_shifts_60 : decode cX6_shifts 60 = .ok (.iaload, 1) := by decide +kernel
theorem dX6_shifts_61 : decode cX6_shifts 61 = .ok (.ifCond .le 7, 3) := by decide +kernel
theorem dX6_shifts_64 : decode cX6_shifts 64 = .ok (.iconst 1, 1) := by decide +kernel
theorem dX6_shifts_65 : decode cX6_shifts 65 = .ok (.goto 4, 3) := by decide +kernel
theorem dX6_shifts_68 : decode cX6_shifts 68 = .ok (.iconst 0, 1) := by decide +kernel
theorem dX6_shifts_69 : decode cX6_shifts 69 = .ok (.istore 7, 2) := by decide +kernel
theorem dX6_shifts_71 : decode cX6_shifts 71 = .ok (.aload_n 0, 1) := by decide +kernel
theorem dX6_shifts_72 : decode cX6_shifts 72 = .ok (.iload 6, 2) := by decide +kernel
theorem dX6_shifts_74 : decode cX6_shifts 74 = .ok (.iload 5, 2) := by decide +kernel
theorem dX6_shifts_76 : decode cX6_shifts 76 = .ok (.iadd, 1) := by decide +kernel
theorem dX6_shifts_77 : decode cX6_shifts 77 = .ok (.dup2, 1) := by decide +kernel
theorem dX6_shifts_78 : decode cX6_shifts 78 = .ok (.iaload, 1) := by decide +kernel
theorem dX6_shifts_79 : decode cX6_shifts 79 = .ok (.iload 7, 2) := by decide +kernel
theorem dX6_shifts_81 : decode cX6_shifts 81 = .ok (.isub, 1) := by decide +kernel
theorem dX6_shifts_82 : decode cX6_shifts 82 = .ok (.iastore, 1) := by decide +kernel
theorem dX6_shifts_83 : decode cX6_shifts 83 = .ok (.aload_n 0, 1) := by decide +kernel
theorem dX6_shifts_84 : decode cX6_shifts 84 = .ok (.iload 6, 2) := by decide +kernel
theorem dX6_shifts_86 : decode cX6_shifts 86 = .ok (.dup2, 1) := by decide +kernel
theorem dX6_shifts_87 : decode cX6_shifts 87 = .ok (.iaload, 1) := by decide +kernel
theorem dX6_shifts_88 : decode cX6_shifts 88 = .ok (.iload 7, 2) := by decide +kernel
theorem dX6_shifts_90 : decode cX6_shifts 90 = .ok (.iadd, 1) := by decide +kernel
theorem dX6_shifts_91 : decode cX6_shifts 91 = .ok (.iastore, 1) := by decide +kernel
theorem dX6_shifts_92 : decode cX6_shifts 92 = .ok (.iload 7, 2) := by decide +kernel
theorem dX6_shifts_94 : decode cX6_shifts 94 = .ok (.ireturn, 1) := by decide +kernel
theorem dX6_progressOf_0 : decode cX6_progressOf 0 = .ok (.iconst 0, 1) := by decide +kernel
theorem dX6_progressOf_1 : decode cX6_progressOf 1 = .ok (.istore 4, 2) := by decide +kernel
theorem dX6_progressOf_3 : decode cX6_progressOf 3 = .ok (.iconst 0, 1) := by decide +kernel
theorem dX6_progressOf_4 : decode cX6_progressOf 4 = .ok (.istore 5, 2) := by decide +kernel
theorem dX6_progressOf_6 : decode cX6_progressOf 6 = .ok (.iload 5, 2) := by decide +kernel
theorem dX6_progressOf_8 : decode cX6_progressOf 8 = .ok (.bipush 15, 2) := by decide +kernel
theorem dX6_progressOf_10 : decode cX6_progressOf 10 = .ok (.if_icmp .gt 28, 3) := by decide +kernel
theorem dX6_progressOf_13 : decode cX6_progressOf 13 = .ok (.iload 4, 2) := by decide +kernel
theorem dX6_progressOf_15 : decode cX6_progressOf 15 = .ok (.iload 5, 2) := by decide +kernel
theorem dX6_progressOf_17 : decode cX6_progressOf 17 = .ok (.aload_n 1, 1) := by decide +kernel
theorem dX6_progressOf_18 : decode cX6_progressOf 18 = .ok (.iload_n 2, 1) := by decide +kernel
theorem dX6_progressOf_19 : decode cX6_progressOf 19 = .ok (.bipush 16, 2) := by decide +kernel
theorem dX6_progressOf_21 : decode cX6_progressOf 21 = .ok (.iload_n 3, 1) := by decide +kernel
theorem dX6_progressOf_22 : decode cX6_progressOf 22 = .ok (.imul, 1) := by decide +kernel
theorem dX6_progressOf_23 : decode cX6_progressOf 23 = .ok (.iadd, 1) := by decide +kernel
theorem dX6_progressOf_24 : decode cX6_progressOf 24 = .ok (.iload 5, 2) := by decide +kernel
theorem dX6_progressOf_26 : decode cX6_progressOf 26 = .ok (.iadd, 1) := by decide +kernel
theorem dX6_progressOf_27 : decode cX6_progressOf 27 = .ok (.iaload, 1) := by decide +kernel
theorem dX6_progressOf_28 : decode cX6_progressOf 28 = .ok (.imul, 1) := by decide +kernel
theorem dX6_progressOf_29 : decode cX6_progressOf 29 = .ok (.iadd, 1) := by decide +kernel
theorem dX6_progressOf_30 : decode cX6_progressOf 30 = .ok (.istore 4, 2) := by decide +kernel
theorem dX6_progressOf_32 : decode cX6_progressOf 32 = .ok (.iinc 5 1, 3) := by decide +kernel
theorem dX6_progressOf_35 : decode cX6_progressOf 35 = .ok (.goto (-29), 3) := by decide +kernel
theorem dX6_progressOf_38 : decode cX6_progressOf 38 = .ok (.iload 4, 2) := by decide +kernel
theorem dX6_progressOf_40 : decode cX6_progressOf 40 = .ok (.ireturn, 1) := by decide +kernel
theorem dX6_onlyOne_0 : decode cX6_onlyOne 0 = .ok (.iconst (-1), 1) := by decide +kernel
theorem dX6_onlyOne_1 : decode cX6_onlyOne 1 = .ok (.istore 4, 2) := by decide +kernel
theorem dX6_onlyOne_3 : decode cX6_onlyOne 3 = .ok (.iconst 0, 1) := by decide +kernel
theorem dX6_onlyOne_4 : decode cX6_onlyOne 4 = .ok (.istore 5, 2) := by decide +kernel
theorem dX6_onlyOne_6 : decode cX6_onlyOne 6 = .ok (.iload 5, 2) := by decide +kernel
theorem dX6_onlyOne_8 : decode cX6_onlyOne 8 = .ok (.bipush 15, 2) := by decide +kernel
theorem dX6_onlyOne_10 : decode cX6_onlyOne 10 = .ok (.if_icmp .ge 32, 3) := by decide +kernel
theorem dX6_onlyOne_13 : decode cX6_onlyOne 13 = .ok (.aload_n 1, 1) := by decide +kernel
theorem dX6_onlyOne_14 : decode cX6_onlyOne 14 = .ok (.iload_n 2, 1) := by decide +kernel
theorem dX6_onlyOne_15 : decode cX6_onlyOne 15 = .ok (.bipush 16, 2) := by decide +kernel
theorem dX6_onlyOne_17 : decode cX6_onlyOne 17 = .ok (.iload_n 3, 1) := by decide +kernel
theorem dX6_onlyOne_18 : decode cX6_onlyOne 18 = .ok (.imul, 1) := by decide +kernel
theorem dX6_onlyOne_19 : decode cX6_onlyOne 19 = .ok (.iadd, 1) := by decide +kernel
theorem dX6_onlyOne_20 : decode cX6_onlyOne 20 = .ok (.iload 5, 2) := by decide +kernel
theorem dX6_onlyOne_22 : decode cX6_onlyOne 22 = .ok (.iadd, 1) := by decide +kernel
theorem dX6_onlyOne_23 : decode cX6_onlyOne 23 = .ok (.iaload, 1) := by decide +kernel
theorem dX6_onlyOne_24 : decode cX6_onlyOne 24 = .ok (.ifCond .le 8, 3) := by decide +kernel
theorem dX6_onlyOne_27 : decode cX6_onlyOne 27 = .ok (.iload 5, 2) := by decide +kernel
theorem dX6_onlyOne_29 : decode cX6_onlyOne 29 = .ok (.goto 5, 3) := by decide +kernel
theorem dX6_onlyOne_32 : decode cX6_onlyOne 32 = .ok (.iload 4, 2) := by decide +kernel
theorem dX6_onlyOne_34 : decode cX6_onlyOne 34 = .ok (.istore 4, 2) := by decide +kernel
theorem dX6_onlyOne_36 : decode cX6_onlyOne 36 = .ok (.iinc 5 1, 3) := by decide +kernel
theorem dX6_onlyOne_39 : decode cX6_onlyOne 39 = .ok (.goto (-33), 3) := by decide +kernel
theorem dX6_onlyOne_42 : decode cX6_onlyOne 42 = .ok (.aload_n 1, 1) := by decide +kernel
theorem dX6_onlyOne_43 : decode cX6_onlyOne 43 = .ok (.iload_n 2, 1) := by decide +kernel
theorem dX6_onlyOne_44 : decode cX6_onlyOne 44 = .ok (.bipush 16, 2) := by decide +kernel
theorem dX6_onlyOne_46 : decode cX6_onlyOne 46 = .ok (.iload_n 3, 1) := by decide +kernel
theorem dX6_onlyOne_47 : decode cX6_onlyOne 47 = .ok (.imul, 1) := by decide +kernel
theorem dX6_onlyOne_48 : decode cX6_onlyOne 48 = .ok (.iadd, 1) := by decide +kernel
theorem dX6_onlyOne_49 : decode cX6_onlyOne 49 = .ok (.bipush 15, 2) := by decide +kernel
theorem dX6_onlyOne_51 : decode cX6_onlyOne 51 = .ok (.iadd, 1) := by decide +kernel
theorem dX6_onlyOne_52 : decode cX6_onlyOne 52 = .ok (.iaload, 1) := by decide +kernel
theorem dX6_onlyOne_53 : decode cX6_onlyOne 53 = .ok (.aload_n 0, 1) := by decide +kernel
theorem dX6_onlyOne_54 : decode cX6_onlyOne 54 = .ok (.getfield 90, 3) := by decide +kernel
theorem dX6_onlyOne_57 : decode cX6_onlyOne 57 = .ok (.iconst 1, 1) := by decide +kernel
theorem dX6_onlyOne_58 : decode cX6_onlyOne 58 = .ok (.isub, 1) := by decide +kernel
theorem dX6_onlyOne_59 : decode cX6_onlyOne 59 = .ok (.if_icmp .ne 8, 3) := by decide +kernel
theorem dX6_onlyOne_62 : decode cX6_onlyOne 62 = .ok (.iload 4, 2) := by decide +kernel
theorem dX6_onlyOne_64 : decode cX6_onlyOne 64 = .ok (.goto 4, 3) := by decide +kernel
theorem dX6_onlyOne_67 : decode cX6_onlyOne 67 = .ok (.iconst (-1), 1) := by decide +kernel
theorem dX6_onlyOne_68 : decode cX6_onlyOne 68 = .ok (.ireturn, 1) := by decide +kernel
set_option maxRecDepth 20000 in
theorem ggX6_leaf_X6_onlyOne : GoodIn wsX6_leaf wsX6_onlyOne := goodIn_r _ [10, 11, 16, 17, 18, 19, 20, 21, 22, 23, 24, 25, 26, 27, 28, 29, 30, 31, 32, 33, 34] (by decide +kernel) (by decide +kernel)
set_option maxRecDepth 20000 in
theorem gX6_leaf_X6_onlyOne : GoodIn wsX6_leaf (wsV RX6 93 RX6 yX6_onlyOne wsX6_onlyOne) := goodIn_app (goodIn_of _ (by decide +kernel)) ggX6_leaf_X6_onlyOne
set_option maxRecDepth 20000 in
theorem ggX6_leaf_X6_progressOf : GoodIn wsX6_leaf wsX6_progressOf := goodIn_r _ [15] (by decide +kernel) (by decide +kernel)
set_option maxRecDepth 20000 in
theorem gX6_leaf_X6_progressOf : GoodIn wsX6_leaf (wsV RX6 98 RX6 yX6_progressOf wsX6_progressOf) := goodIn_app (goodIn_of _ (by decide +kernel)) ggX6_leaf_X6_progressOf
theorem dX6_leaf_0 : decode cX6_leaf 0 = .ok (.aload_n 0, 1) := by decide +kernel
theorem dX6_leaf_1 : decode cX6_leaf 1 = .ok (.aload_n 0, 1) := by decide +kernel
theorem dX6_leaf_2 : decode cX6_leaf 2 = .ok (.getfield 35, 3) := by decide +kernel
theorem dX6_leaf_5 : decode cX6_leaf 5 = .ok (.iload_n 1, 1) := by decide +kernel
theorem dX6_leaf_6 : decode cX6_leaf 6 = .ok (.iload_n 2, 1) := by decide +kernel
theorem dX6_leaf_7 : decode cX6_leaf 7 = .ok (.invokevirtual 93, 3) := by decide +kernel
theorem dX6_leaf_10 : decode cX6_leaf 10 = .ok (.istore_n 3, 1) := by decide +kernel
theorem dX6_leaf_11 : decode cX6_leaf 11 = .ok (.aload_n 0, 1) := by decide +kernel
theorem dX6_leaf_12 : decode cX6_leaf 12 = .ok (.aload_n 0, 1) := by decide +kernel
theorem dX6_leaf_13 : decode cX6_leaf 13 = .ok (.getfield 35, 3) := by decide +kernel
theorem dX6_leaf_16 : decode cX6_leaf 16 = .ok (.iload_n 1, 1) := by decide +kernel
theorem dX6_leaf_17 : decode cX6_leaf 17 = .ok (.iconst 1, 1) := by decide +kernel
theorem dX6_leaf_18 : decode cX6_leaf 18 = .ok (.iload_n 2, 1) := by decide +kernel
theorem dX6_leaf_19 : decode cX6_leaf 19 = .ok (.isub, 1) := by decide +kernel
theorem dX6_leaf_20 : decode cX6_leaf 20 = .ok (.invokevirtual 93, 3) := by decide +kernel
theorem dX6_leaf_23 : decode cX6_leaf 23 = .ok (.istore 4, 2) := by decide +kernel
theorem dX6_leaf_25 : decode cX6_leaf 25 = .ok (.iload_n 3, 1) := by decide +kernel
theorem dX6_leaf_26 : decode cX6_leaf 26 = .ok (.iconst (-1), 1) := by decide +kernel
theorem dX6_leaf_27 : decode cX6_leaf 27 = .ok (.if_icmp .eq 22, 3) := by decide +kernel
theorem dX6_leaf_30 : decode cX6_leaf 30 = .ok (.iload 4, 2) := by decide +kernel
theorem dX6_leaf_32 : decode cX6_leaf 32 = .ok (.iconst (-1), 1) := by decide +kernel
theorem dX6_leaf_33 : decode cX6_leaf 33 = .ok (.if_icmp .eq 16, 3) := by decide +kernel
theorem dX6_leaf_36 : decode cX6_leaf 36 = .ok (.aload_n 0, 1) := by decide +kernel
theorem dX6_leaf_37 : decode cX6_leaf 37 = .ok (.getfield 32, 3) := by decide +kernel
theorem dX6_leaf_40 : decode cX6_leaf 40 = .ok (.bipush 15, 2) := by decide +kernel
theorem dX6_leaf_42 : decode cX6_leaf 42 = .ok (.iload_n 3, 1) := by decide +kernel
theorem dX6_leaf_43 : decode cX6_leaf 43 = .ok (.imul, 1) := by decide +kernel
theorem dX6_leaf_44 : decode cX6_leaf 44 = .ok (.iload 4, 2) := by decide +kernel
theorem dX6_leaf_46 : decode cX6_leaf 46 = .ok (.iadd, 1) := by decide +kernel
theorem dX6_leaf_47 : decode cX6_leaf 47 = .ok (.iaload, 1) := by decide +kernel
theorem dX6_leaf_48 : decode cX6_leaf 48 = .ok (.ireturn, 1) := by decide +kernel
theorem dX6_leaf_49 : decode cX6_leaf 49 = .ok (.ldc 79, 2) := by decide +kernel
theorem dX6_leaf_51 : decode cX6_leaf 51 = .ok (.ldc 97, 2) := by decide +kernel
theorem dX6_leaf_53 : decode cX6_leaf 53 = .ok (.aload_n 0, 1) := by decide +kernel
theorem dX6_leaf_54 : decode cX6_leaf 54 = .ok (.aload_n 0, 1) := by decide +kernel
theorem dX6_leaf_55 : decode cX6_leaf 55 = .ok (.getfield 35, 3) := by decide +kernel
theorem dX6_leaf_58 : decode cX6_leaf 58 = .ok (.iload_n 1, 1) := by decide +kernel
theorem dX6_leaf_59 : decode cX6_leaf 59 = .ok (.iload_n 2, 1) := by decide +kernel
theorem dX6_leaf_60 : decode cX6_leaf 60 = .ok (.invokevirtual 98, 3) := by decide +kernel
theorem dX6_leaf_63 : decode cX6_leaf 63 = .ok (.aload_n 0, 1) := by decide +kernel
theorem dX6_leaf_64 : decode cX6_leaf 64 = .ok (.aload_n 0, 1) := by decide +kernel
theorem dX6_leaf_65 : decode cX6_leaf 65 = .ok (.getfield 35, 3) := by decide +kernel
theorem dX6_leaf_68 : decode cX6_leaf 68 = .ok (.iload_n 1, 1) := by decide +kernel
theorem dX6_leaf_69 : decode cX6_leaf 69 = .ok (.iconst 1, 1) := by decide +kernel
theorem dX6_leaf_70 : decode cX6_leaf 70 = .ok (.iload_n 2, 1) := by decide +kernel
theorem dX6_leaf_71 : decode cX6_leaf 71 = .ok (.isub, 1) := by decide +kernel
theorem dX6_leaf_72 : decode cX6_leaf 72 = .ok (.invokevirtual 98, 3) := by decide +kernel
theorem dX6_leaf_75 : decode cX6_leaf 75 = .ok (.isub, 1) := by decide +kernel
theorem dX6_leaf_76 : decode cX6_leaf 76 = .ok (.imul, 1) := by decide +kernel
theorem dX6_leaf_77 : decode cX6_leaf 77 = .ok (.iadd, 1) := by decide +kernel
theorem dX6_leaf_78 : decode cX6_leaf 78 = .ok (.istore 5, 2) := by decide +kernel
theorem dX6_leaf_80 : decode cX6_leaf 80 = .ok (.iload 5, 2) := by decide +kernel
theorem dX6_leaf_82 : decode cX6_leaf 82 = .ok (.iconst 1, 1) := by decide +kernel
theorem dX6_leaf_83 : decode cX6_leaf 83 = .ok (.if_icmp .ge 7, 3) := by decide +kernel
theorem dX6_leaf_86 : decode cX6_leaf 86 = .ok (.iconst 1, 1) := by decide +kernel
theorem dX6_leaf_87 : decode cX6_leaf 87 = .ok (.goto 17, 3) := by decide +kernel
theorem dX6_leaf_90 : decode cX6_leaf 90 = .ok (.iload 5, 2) := by decide +kernel
theorem dX6_leaf_92 : decode cX6_leaf 92 = .ok (.ldc 101, 2) := by decide +kernel
theorem dX6_leaf_94 : decode cX6_leaf 94 = .ok (.if_icmp .le 8, 3) := by decide +kernel
theorem dX6_leaf_97 : decode cX6_leaf 97 = .ok (.ldc 101, 2) := by decide +kernel
theorem dX6_leaf_99 : decode cX6_leaf 99 = .ok (.goto 5, 3) := by decide +kernel
theorem dX6_leaf_102 : decode cX6_leaf 102 = .ok (.iload 5, 2) := by decide +kernel
theorem dX6_leaf_104 : decode cX6_leaf 104 = .ok (.ireturn, 1) := by decide +kernel
theorem dX6_enters_0 : decode cX6_enters 0 = .ok (.aload_n 0, 1) := by decide +kernel
theorem dX6_enters_1 : decode cX6_enters 1 = .ok (.getfield 38, 3) := by decide +kernel
theorem dX6_enters_4 : decode cX6_enters 4 = .ok (.iload_n 1, 1) := by decide +kernel
theorem dX6_enters_5 : decode cX6_enters 5 = .ok (.iload_n 2, 1) := by decide +kernel
theorem dX6_enters_6 : decode cX6_enters 6 = .ok (.iastore, 1) := by decide +kernel
theorem dX6_enters_7 : decode cX6_enters 7 = .ok (.aload_n 0, 1) := by decide +kernel
theorem dX6_enters_8 : decode cX6_enters 8 = .ok (.getfield 41, 3) := by decide +kernel
theorem dX6_enters_11 : decode cX6_enters 11 = .ok (.iload_n 1, 1) := by decide +kernel
theorem dX6_enters_12 : decode cX6_enters 12 = .ok (.iconst 0, 1) := by decide +kernel
theorem dX6_enters_13 : decode cX6_enters 13 = .ok (.iastore, 1) := by decide +kernel
theorem dX6_enters_14 : decode cX6_enters 14 = .ok (.aload_n 0, 1) := by decide +kernel
theorem dX6_enters_15 : decode cX6_enters 15 = .ok (.getfield 44, 3) := by decide +kernel
theorem dX6_enters_18 : decode cX6_enters 18 = .ok (.iload_n 1, 1) := by decide +kernel
theorem dX6_enters_19 : decode cX6_enters 19 = .ok (.iconst 0, 1) := by decide +kernel
theorem dX6_enters_20 : decode cX6_enters 20 = .ok (.iastore, 1) := by decide +kernel
theorem dX6_enters_21 : decode cX6_enters 21 = .ok (.aload_n 0, 1) := by decide +kernel
theorem dX6_enters_22 : decode cX6_enters 22 = .ok (.getfield 47, 3) := by decide +kernel
theorem dX6_enters_25 : decode cX6_enters 25 = .ok (.iload_n 1, 1) := by decide +kernel
theorem dX6_enters_26 : decode cX6_enters 26 = .ok (.iconst (-1), 1) := by decide +kernel
theorem dX6_enters_27 : decode cX6_enters 27 = .ok (.iastore, 1) := by decide +kernel
theorem dX6_enters_28 : decode cX6_enters 28 = .ok (.aload_n 0, 1) := by decide +kernel
theorem dX6_enters_29 : decode cX6_enters 29 = .ok (.getfield 50, 3) := by decide +kernel
theorem dX6_enters_32 : decode cX6_enters 32 = .ok (.iload_n 1, 1) := by decide +kernel
theorem dX6_enters_33 : decode cX6_enters 33 = .ok (.lconst 0, 1) := by decide +kernel
theorem dX6_enters_34 : decode cX6_enters 34 = .ok (.lastore, 1) := by decide +kernel
theorem dX6_enters_35 : decode cX6_enters 35 = .ok (.return_, 1) := by decide +kernel
theorem dX6_copies_0 : decode cX6_copies 0 = .ok (.iconst 0, 1) := by decide +kernel
theorem dX6_copies_1 : decode cX6_copies 1 = .ok (.istore_n 2, 1) := by decide +kernel
theorem dX6_copies_2 : decode cX6_copies 2 = .ok (.iload_n 2, 1) := by decide +kernel
theorem dX6_copies_3 : decode cX6_copies 3 = .ok (.bipush 32, 2) := by decide +kernel
theorem dX6_copies_5 : decode cX6_copies 5 = .ok (.if_icmp .ge 34, 3) := by decide +kernel
theorem dX6_copies_8 : decode cX6_copies 8 = .ok (.aload_n 0, 1) := by decide +kernel
theorem dX6_copies_9 : decode cX6_copies 9 = .ok (.getfield 35, 3) := by decide +kernel
theorem dX6_copies_12 : decode cX6_copies 12 = .ok (.bipush 32, 2) := by decide +kernel
theorem dX6_copies_14 : decode cX6_copies 14 = .ok (.iload_n 1, 1) := by decide +kernel
theorem dX6_copies_15 : decode cX6_copies 15 = .ok (.imul, 1) := by decide +kernel
theorem dX6_copies_16 : decode cX6_copies 16 = .ok (.bipush 32, 2) := by decide +kernel
theorem dX6_copies_18 : decode cX6_copies 18 = .ok (.iadd, 1) := by decide +kernel
theorem dX6_copies_19 : decode cX6_copies 19 = .ok (.iload_n 2, 1) := by decide +kernel
theorem dX6_copies_20 : decode cX6_copies 20 = .ok (.iadd, 1) := by decide +kernel
theorem dX6_copies_21 : decode cX6_copies 21 = .ok (.aload_n 0, 1) := by decide +kernel
theorem dX6_copies_22 : decode cX6_copies 22 = .ok (.getfield 35, 3) := by decide +kernel
theorem dX6_copies_25 : decode cX6_copies 25 = .ok (.bipush 32, 2) := by decide +kernel
theorem dX6_copies_27 : decode cX6_copies 27 = .ok (.iload_n 1, 1) := by decide +kernel
theorem dX6_copies_28 : decode cX6_copies 28 = .ok (.imul, 1) := by decide +kernel
theorem dX6_copies_29 : decode cX6_copies 29 = .ok (.iload_n 2, 1) := by decide +kernel
theorem dX6_copies_30 : decode cX6_copies 30 = .ok (.iadd, 1) := by decide +kernel
theorem dX6_copies_31 : decode cX6_copies 31 = .ok (.iaload, 1) := by decide +kernel
theorem dX6_copies_32 : decode cX6_copies 32 = .ok (.iastore, 1) := by decide +kernel
theorem dX6_copies_33 : decode cX6_copies 33 = .ok (.iinc 2 1, 3) := by decide +kernel
theorem dX6_copies_36 : decode cX6_copies 36 = .ok (.goto (-34), 3) := by decide +kernel
theorem dX6_copies_39 : decode cX6_copies 39 = .ok (.return_, 1) := by decide +kernel
theorem dX6_takes_0 : decode cX6_takes 0 = .ok (.aload_n 0, 1) := by decide +kernel
theorem dX6_takes_1 : decode cX6_takes 1 = .ok (.getfield 38, 3) := by decide +kernel
theorem dX6_takes_4 : decode cX6_takes 4 = .ok (.iload_n 1, 1) := by decide +kernel
theorem dX6_takes_5 : decode cX6_takes 5 = .ok (.iaload, 1) := by decide +kernel
theorem dX6_takes_6 : decode cX6_takes 6 = .ok (.iload_n 2, 1) := by decide +kernel
theorem dX6_takes_7 : decode cX6_takes 7 = .ok (.if_icmp .ne 7, 3) := by decide +kernel
theorem dX6_takes_10 : decode cX6_takes 10 = .ok (.iload_n 3, 1) := by decide +kernel
theorem dX6_takes_11 : decode cX6_takes 11 = .ok (.goto 7, 3) := by decide +kernel
theorem dX6_takes_14 : decode cX6_takes 14 = .ok (.ldc 71, 2) := by decide +kernel
theorem dX6_takes_16 : decode cX6_takes 16 = .ok (.iload_n 3, 1) := by decide +kernel
theorem dX6_takes_17 : decode cX6_takes 17 = .ok (.isub, 1) := by decide +kernel
theorem dX6_takes_18 : decode cX6_takes 18 = .ok (.istore 4, 2) := by decide +kernel
theorem dX6_takes_20 : decode cX6_takes 20 = .ok (.aload_n 0, 1) := by decide +kernel
theorem dX6_takes_21 : decode cX6_takes 21 = .ok (.getfield 47, 3) := by decide +kernel
theorem dX6_takes_24 : decode cX6_takes 24 = .ok (.iload_n 1, 1) := by decide +kernel
theorem dX6_takes_25 : decode cX6_takes 25 = .ok (.iload 4, 2) := by decide +kernel
theorem dX6_takes_27 : decode cX6_takes 27 = .ok (.aload_n 0, 1) := by decide +kernel
theorem dX6_takes_28 : decode cX6_takes 28 = .ok (.getfield 47, 3) := by decide +kernel
theorem dX6_takes_31 : decode cX6_takes 31 = .ok (.iload_n 1, 1) := by decide +kernel
theorem dX6_takes_32 : decode cX6_takes 32 = .ok (.iaload, 1) := by decide +kernel
theorem dX6_takes_33 : decode cX6_takes 33 = .ok (.if_icmp .le 8, 3) := by decide +kernel
theorem dX6_takes_36 : decode cX6_takes 36 = .ok (.iload 4, 2) := by decide +kernel
theorem dX6_takes_38 : decode cX6_takes 38 = .ok (.goto 9, 3) := by decide +kernel
theorem dX6_takes_41 : decode cX6_takes 41 = .ok (.aload_n 0, 1) := by decide +kernel
theorem dX6_takes_42 : decode cX6_takes 42 = .ok (.getfield 47, 3) := by decide +kernel
theorem dX6_takes_45 : decode cX6_takes 45 = .ok (.iload_n 1, 1) := by decide +kernel
theorem dX6_takes_46 : decode cX6_takes 46 = .ok (.iaload, 1) := by decide +kernel
theorem dX6_takes_47 : decode cX6_takes 47 = .ok (.iastore, 1) := by decide +kernel
theorem dX6_takes_48 : decode cX6_takes 48 = .ok (.return_, 1) := by decide +kernel
set_option maxRecDepth 20000 in
theorem ggX6_goesOn_X6_canMove : GoodIn wsX6_goesOn wsX6_canMove := goodIn_r _ [11] (by decide +kernel) (by decide +kernel)
set_option maxRecDepth 20000 in
theorem gX6_goesOn_X6_canMove : GoodIn wsX6_goesOn (va_wsS RX6 102 yX6_canMove wsX6_canMove) := goodIn_app (goodIn_of _ (by decide +kernel)) ggX6_goesOn_X6_canMove
set_option maxRecDepth 20000 in
theorem ggX6_goesOn_X6_copies : GoodIn wsX6_goesOn wsX6_copies := goodIn_r _ [15, 3, 33, 34, 35, 36, 37, 38, 39, 40, 41, 42, 43, 44, 45, 46, 47, 48, 49, 50, 51] (by decide +kernel) (by decide +kernel)
set_option maxRecDepth 20000 in
theorem gX6_goesOn_X6_copies : GoodIn wsX6_goesOn (wsV RX6 106 RX6 yX6_copies wsX6_copies) := goodIn_app (goodIn_of _ (by decide +kernel)) ggX6_goesOn_X6_copies
set_option maxRecDepth 20000 in
theorem ggX6_goesOn_X6_shifts : GoodIn wsX6_goesOn wsX6_shifts := goodIn_r _ [18, 19, 20, 10, 21, 22, 23, 24] (by decide +kernel) (by decide +kernel)
set_option maxRecDepth 20000 in
theorem gX6_goesOn_X6_shifts : GoodIn wsX6_goesOn (va_wsS RX6 109 yX6_shifts wsX6_shifts) := goodIn_app (goodIn_of _ (by decide +kernel)) ggX6_goesOn_X6_shifts
set_option maxRecDepth 20000 in
theorem ggX6_goesOn_X6_isRosette : GoodIn wsX6_goesOn wsX6_isRosette := goodIn_r _ [27] (by decide +kernel) (by decide +kernel)
set_option maxRecDepth 20000 in
theorem gX6_goesOn_X6_isRosette : GoodIn wsX6_goesOn (va_wsS RX6 76 yX6_isRosette wsX6_isRosette) := goodIn_app (goodIn_of _ (by decide +kernel)) ggX6_goesOn_X6_isRosette
set_option maxRecDepth 20000 in
theorem ggX6_goesOn_X6_enters : GoodIn wsX6_goesOn wsX6_enters := goodIn_r _ [31, 1, 4, 2, 6, 32, 33, 34, 35, 36, 37, 38, 39, 40, 41, 42, 43, 44, 45, 46, 47, 48, 49, 50, 51] (by decide +kernel) (by decide +kernel)
set_option maxRecDepth 20000 in
theorem gX6_goesOn_X6_enters : GoodIn wsX6_goesOn (wsV RX6 113 RX6 yX6_enters wsX6_enters) := goodIn_app (goodIn_of _ (by decide +kernel)) ggX6_goesOn_X6_enters
theorem dX6_goesOn_0 : decode cX6_goesOn 0 = .ok (.bipush 32, 2) := by decide +kernel
theorem dX6_goesOn_2 : decode cX6_goesOn 2 = .ok (.iload_n 1, 1) := by decide +kernel
theorem dX6_goesOn_3 : decode cX6_goesOn 3 = .ok (.imul, 1) := by decide +kernel
theorem dX6_goesOn_4 : decode cX6_goesOn 4 = .ok (.istore_n 2, 1) := by decide +kernel
theorem dX6_goesOn_5 : decode cX6_goesOn 5 = .ok (.aload_n 0, 1) := by decide +kernel
theorem dX6_goesOn_6 : decode cX6_goesOn 6 = .ok (.getfield 38, 3) := by decide +kernel
theorem dX6_goesOn_9 : decode cX6_goesOn 9 = .ok (.iload_n 1, 1) := by decide +kernel
theorem dX6_goesOn_10 : decode cX6_goesOn 10 = .ok (.iaload, 1) := by decide +kernel
theorem dX6_goesOn_11 : decode cX6_goesOn 11 = .ok (.istore_n 3, 1) := by decide +kernel
theorem dX6_goesOn_12 : decode cX6_goesOn 12 = .ok (.aload_n 0, 1) := by decide +kernel
theorem dX6_goesOn_13 : decode cX6_goesOn 13 = .ok (.getfield 44, 3) := by decide +kernel
theorem dX6_goesOn_16 : decode cX6_goesOn 16 = .ok (.iload_n 1, 1) := by decide +kernel
theorem dX6_goesOn_17 : decode cX6_goesOn 17 = .ok (.iaload, 1) := by decide +kernel
theorem dX6_goesOn_18 : decode cX6_goesOn 18 = .ok (.bipush 15, 2) := by decide +kernel
theorem dX6_goesOn_20 : decode cX6_goesOn 20 = .ok (.if_icmp .ge 134, 3) := by decide +kernel
theorem dX6_goesOn_23 : decode cX6_goesOn 23 = .ok (.aload_n 0, 1) := by decide +kernel
theorem dX6_goesOn_24 : decode cX6_goesOn 24 = .ok (.getfield 44, 3) := by decide +kernel
theorem dX6_goesOn_27 : decode cX6_goesOn 27 = .ok (.iload_n 1, 1) := by decide +kernel
theorem dX6_goesOn_28 : decode cX6_goesOn 28 = .ok (.iaload, 1) := by decide +kernel
theorem dX6_goesOn_29 : decode cX6_goesOn 29 = .ok (.istore 4, 2) := by decide +kernel
theorem dX6_goesOn_31 : decode cX6_goesOn 31 = .ok (.aload_n 0, 1) := by decide +kernel
theorem dX6_goesOn_32 : decode cX6_goesOn 32 = .ok (.getfield 44, 3) := by decide +kernel
theorem dX6_goesOn_35 : decode cX6_goesOn 35 = .ok (.iload_n 1, 1) := by decide +kernel
theorem dX6_goesOn_36 : decode cX6_goesOn 36 = .ok (.dup2, 1) := by decide +kernel
theorem dX6_goesOn_37 : decode cX6_goesOn 37 = .ok (.iaload, 1) := by decide +kernel
theorem dX6_goesOn_38 : decode cX6_goesOn 38 = .ok (.iconst 1, 1) := by decide +kernel
theorem dX6_goesOn_39 : decode cX6_goesOn 39 = .ok (.iadd, 1) := by decide +kernel
theorem dX6_goesOn_40 : decode cX6_goesOn 40 = .ok (.iastore, 1) := by decide +kernel
theorem dX6_goesOn_41 : decode cX6_goesOn 41 = .ok (.aload_n 0, 1) := by decide +kernel
theorem dX6_goesOn_42 : decode cX6_goesOn 42 = .ok (.getfield 35, 3) := by decide +kernel
theorem dX6_goesOn_45 : decode cX6_goesOn 45 = .ok (.iload_n 2, 1) := by decide +kernel
theorem dX6_goesOn_46 : decode cX6_goesOn 46 = .ok (.iload_n 3, 1) := by decide +kernel
theorem dX6_goesOn_47 : decode cX6_goesOn 47 = .ok (.iload 4, 2) := by decide +kernel
theorem dX6_goesOn_49 : decode cX6_goesOn 49 = .ok (.aload_n 0, 1) := by decide +kernel
theorem dX6_goesOn_50 : decode cX6_goesOn 50 = .ok (.getfield 41, 3) := by decide +kernel
theorem dX6_goesOn_53 : decode cX6_goesOn 53 = .ok (.iload_n 1, 1) := by decide +kernel
theorem dX6_goesOn_54 : decode cX6_goesOn 54 = .ok (.iaload, 1) := by decide +kernel
theorem dX6_goesOn_55 : decode cX6_goesOn 55 = .ok (.invokestatic 102, 3) := by decide +kernel
theorem dX6_goesOn_58 : decode cX6_goesOn 58 = .ok (.ifCond .eq 93, 3) := by decide +kernel
theorem dX6_goesOn_61 : decode cX6_goesOn 61 = .ok (.aload_n 0, 1) := by decide +kernel
theorem dX6_goesOn_62 : decode cX6_goesOn 62 = .ok (.iload_n 1, 1) := by decide +kernel
theorem dX6_goesOn_63 : decode cX6_goesOn 63 = .ok (.invokevirtual 106, 3) := by decide +kernel
theorem dX6_goesOn_66 : decode cX6_goesOn 66 = .ok (.aload_n 0, 1) := by decide +kernel
theorem dX6_goesOn_67 : decode cX6_goesOn 67 = .ok (.getfield 35, 3) := by decide +kernel
theorem dX6_goesOn_70 : decode cX6_goesOn 70 = .ok (.iload_n 2, 1) := by decide +kernel
theorem dX6_goesOn_71 : decode cX6_goesOn 71 = .ok (.bipush 32, 2) := by decide +kernel
theorem dX6_goesOn_73 : decode cX6_goesOn 73 = .ok (.iadd, 1) := by decide +kernel
theorem dX6_goesOn_74 : decode cX6_goesOn 74 = .ok (.iload_n 3, 1) := by decide +kernel
theorem dX6_goesOn_75 : decode cX6_goesOn 75 = .ok (.iload 4, 2) := by decide +kernel
theorem dX6_goesOn_77 : decode cX6_goesOn 77 = .ok (.aload_n 0, 1) := by decide +kernel
theorem dX6_goesOn_78 : decode cX6_goesOn 78 = .ok (.getfield 41, 3) := by decide +kernel
theorem dX6_goesOn_81 : decode cX6_goesOn 81 = .ok (.iload_n 1, 1) := by decide +kernel
theorem dX6_goesOn_82 : decode cX6_goesOn 82 = .ok (.iaload, 1) := by decide +kernel
theorem dX6_goesOn_83 : decode cX6_goesOn 83 = .ok (.invokestatic 109, 3) := by decide +kernel
theorem dX6_goesOn_86 : decode cX6_goesOn 86 = .ok (.istore 5, 2) := by decide +kernel
theorem dX6_goesOn_88 : decode cX6_goesOn 88 = .ok (.aload_n 0, 1) := by decide +kernel
theorem dX6_goesOn_89 : decode cX6_goesOn 89 = .ok (.getfield 35, 3) := by decide +kernel
theorem dX6_goesOn_92 : decode cX6_goesOn 92 = .ok (.iload_n 2, 1) := by decide +kernel
theorem dX6_goesOn_93 : decode cX6_goesOn 93 = .ok (.bipush 32, 2) := by decide +kernel
theorem dX6_goesOn_95 : decode cX6_goesOn 95 = .ok (.iadd, 1) := by decide +kernel
theorem dX6_goesOn_96 : decode cX6_goesOn 96 = .ok (.bipush 16, 2) := by decide +kernel
theorem dX6_goesOn_98 : decode cX6_goesOn 98 = .ok (.iload_n 3, 1) := by decide +kernel
theorem dX6_goesOn_99 : decode cX6_goesOn 99 = .ok (.imul, 1) := by decide +kernel
theorem dX6_goesOn_100 : decode cX6_goesOn 100 = .ok (.iadd, 1) := by decide +kernel
theorem dX6_goesOn_101 : decode cX6_goesOn 101 = .ok (.bipush 15, 2) := by decide +kernel
theorem dX6_goesOn_103 : decode cX6_goesOn 103 = .ok (.iadd, 1) := by decide +kernel
theorem dX6_goesOn_104 : decode cX6_goesOn 104 = .ok (.iaload, 1) := by decide +kernel
theorem dX6_goesOn_105 : decode cX6_goesOn 105 = .ok (.aload_n 0, 1) := by decide +kernel
theorem dX6_goesOn_106 : decode cX6_goesOn 106 = .ok (.getfield 90, 3) := by decide +kernel
theorem dX6_goesOn_109 : decode cX6_goesOn 109 = .ok (.if_icmp .ge 34, 3) := by decide +kernel
theorem dX6_goesOn_112 : decode cX6_goesOn 112 = .ok (.aload_n 0, 1) := by decide +kernel
theorem dX6_goesOn_113 : decode cX6_goesOn 113 = .ok (.iload_n 1, 1) := by decide +kernel
theorem dX6_goesOn_114 : decode cX6_goesOn 114 = .ok (.iconst 1, 1) := by decide +kernel
theorem dX6_goesOn_115 : decode cX6_goesOn 115 = .ok (.iadd, 1) := by decide +kernel
theorem dX6_goesOn_116 : decode cX6_goesOn 116 = .ok (.iload 4, 2) := by decide +kernel
theorem dX6_goesOn_118 : decode cX6_goesOn 118 = .ok (.aload_n 0, 1) := by decide +kernel
theorem dX6_goesOn_119 : decode cX6_goesOn 119 = .ok (.getfield 41, 3) := by decide +kernel
theorem dX6_goesOn_122 : decode cX6_goesOn 122 = .ok (.iload_n 1, 1) := by decide +kernel
theorem dX6_goesOn_123 : decode cX6_goesOn 123 = .ok (.iaload, 1) := by decide +kernel
theorem dX6_goesOn_124 : decode cX6_goesOn 124 = .ok (.iadd, 1) := by decide +kernel
theorem dX6_goesOn_125 : decode cX6_goesOn 125 = .ok (.invokestatic 76, 3) := by decide +kernel
theorem dX6_goesOn_128 : decode cX6_goesOn 128 = .ok (.ifCond .eq 7, 3) := by decide +kernel
theorem dX6_goesOn_131 : decode cX6_goesOn 131 = .ok (.iload_n 3, 1) := by decide +kernel
theorem dX6_goesOn_132 : decode cX6_goesOn 132 = .ok (.goto 6, 3) := by decide +kernel
theorem dX6_goesOn_135 : decode cX6_goesOn 135 = .ok (.iconst 1, 1) := by decide +kernel
theorem dX6_goesOn_136 : decode cX6_goesOn 136 = .ok (.iload_n 3, 1) := by decide +kernel
theorem dX6_goesOn_137 : decode cX6_goesOn 137 = .ok (.isub, 1) := by decide +kernel
theorem dX6_goesOn_138 : decode cX6_goesOn 138 = .ok (.invokevirtual 113, 3) := by decide +kernel
theorem dX6_goesOn_141 : decode cX6_goesOn 141 = .ok (.iconst 1, 1) := by decide +kernel
theorem dX6_goesOn_142 : decode cX6_goesOn 142 = .ok (.ireturn, 1) := by decide +kernel
theorem dX6_goesOn_143 : decode cX6_goesOn 143 = .ok (.aload_n 0, 1) := by decide +kernel
theorem dX6_goesOn_144 : decode cX6_goesOn 144 = .ok (.getfield 47, 3) := by decide +kernel
theorem dX6_goesOn_147 : decode cX6_goesOn 147 = .ok (.iload_n 1, 1) := by decide +kernel
theorem dX6_goesOn_148 : decode cX6_goesOn 148 = .ok (.ldc 71, 2) := by decide +kernel
theorem dX6_goesOn_150 : decode cX6_goesOn 150 = .ok (.iastore, 1) := by decide +kernel
theorem dX6_goesOn_151 : decode cX6_goesOn 151 = .ok (.goto (-139), 3) := by decide +kernel
theorem dX6_goesOn_154 : decode cX6_goesOn 154 = .ok (.aload_n 0, 1) := by decide +kernel
theorem dX6_goesOn_155 : decode cX6_goesOn 155 = .ok (.getfield 47, 3) := by decide +kernel
theorem dX6_goesOn_158 : decode cX6_goesOn 158 = .ok (.iload_n 1, 1) := by decide +kernel
theorem dX6_goesOn_159 : decode cX6_goesOn 159 = .ok (.iaload, 1) := by decide +kernel
theorem dX6_goesOn_160 : decode cX6_goesOn 160 = .ok (.iconst (-1), 1) := by decide +kernel
theorem dX6_goesOn_161 : decode cX6_goesOn 161 = .ok (.if_icmp .ne 20, 3) := by decide +kernel
theorem dX6_goesOn_164 : decode cX6_goesOn 164 = .ok (.aload_n 0, 1) := by decide +kernel
theorem dX6_goesOn_165 : decode cX6_goesOn 165 = .ok (.iload_n 1, 1) := by decide +kernel
theorem dX6_goesOn_166 : decode cX6_goesOn 166 = .ok (.invokevirtual 106, 3) := by decide +kernel
theorem dX6_goesOn_169 : decode cX6_goesOn 169 = .ok (.aload_n 0, 1) := by decide +kernel
theorem dX6_goesOn_170 : decode cX6_goesOn 170 = .ok (.iload_n 1, 1) := by decide +kernel
theorem dX6_goesOn_171 : decode cX6_goesOn 171 = .ok (.iconst 1, 1) := by decide +kernel
theorem dX6_goesOn_172 : decode cX6_goesOn 172 = .ok (.iadd, 1) := by decide +kernel
theorem dX6_goesOn_173 : decode cX6_goesOn 173 = .ok (.iconst 1, 1) := by decide +kernel
theorem dX6_goesOn_174 : decode cX6_goesOn 174 = .ok (.iload_n 3, 1) := by decide +kernel
theorem dX6_goesOn_175 : decode cX6_goesOn 175 = .ok (.isub, 1) := by decide +kernel
theorem dX6_goesOn_176 : decode cX6_goesOn 176 = .ok (.invokevirtual 113, 3) := by decide +kernel
theorem dX6_goesOn_179 : decode cX6_goesOn 179 = .ok (.iconst 1, 1) := by decide +kernel
theorem dX6_goesOn_180 : decode cX6_goesOn 180 = .ok (.ireturn, 1) := by decide +kernel
theorem dX6_goesOn_181 : decode cX6_goesOn 181 = .ok (.iconst 0, 1) := by decide +kernel
theorem dX6_goesOn_182 : decode cX6_goesOn 182 = .ok (.ireturn, 1) := by decide +kernel
set_option maxRecDepth 20000 in
theorem ggX6_worthOf_X6_enters : GoodIn wsX6_worthOf wsX6_enters := goodIn_r _ [12, 1, 4, 6, 5, 2, 59, 60, 61, 62, 63, 64, 65, 66, 67, 68, 69, 70, 71, 72, 73, 74, 75, 76, 77] (by decide +kernel) (by decide +kernel)
set_option maxRecDepth 20000 in
theorem gX6_worthOf_X6_enters : GoodIn wsX6_worthOf (wsV RX6 113 RX6 yX6_enters wsX6_enters) := goodIn_app (goodIn_of _ (by decide +kernel)) ggX6_worthOf_X6_enters
set_option maxRecDepth 20000 in
theorem ggX6_worthOf_X6_leaf : GoodIn wsX6_worthOf wsX6_leaf := goodIn_r _ [16, 17, 18, 19, 20, 21, 22, 23, 24, 11, 25, 26, 27, 28, 29, 30, 59, 60, 61, 62, 63, 64, 65, 66, 67, 68, 69, 70, 71, 72, 73, 74, 75, 76, 77] (by decide +kernel) (by decide +kernel)
set_option maxRecDepth 20000 in
theorem gX6_worthOf_X6_leaf : GoodIn wsX6_worthOf (wsV RX6 117 RX6 yX6_leaf wsX6_leaf) := goodIn_app (goodIn_of _ (by decide +kernel)) ggX6_worthOf_X6_leaf
set_option maxRecDepth 20000 in
theorem ggX6_worthOf_X6_goesOn : GoodIn wsX6_worthOf wsX6_goesOn := goodIn_r _ [34, 1, 6, 17, 4, 26, 5, 35, 36, 37, 11, 38, 39, 40, 41, 42, 43, 44, 45, 46, 47, 48, 49, 50, 51, 52, 53, 54, 8, 9, 10, 12, 2, 59, 60, 61, 62, 63, 64, 65, 66, 67, 68, 69, 70, 71, 72, 73, 74, 75, 76, 77] (by decide +kernel) (by decide +kernel)
set_option maxRecDepth 20000 in
theorem gX6_worthOf_X6_goesOn : GoodIn wsX6_worthOf (wsV RX6 121 RX6 yX6_goesOn wsX6_goesOn) := goodIn_app (goodIn_of _ (by decide +kernel)) ggX6_worthOf_X6_goesOn
set_option maxRecDepth 20000 in
theorem ggX6_worthOf_X6_takes : GoodIn wsX6_worthOf wsX6_takes := goodIn_r _ [58, 1, 35, 5, 59, 60, 61, 62, 63, 64, 65, 66, 67, 68, 69, 70, 71, 72, 73, 74, 75, 76, 77] (by decide +kernel) (by decide +kernel)
set_option maxRecDepth 20000 in
theorem gX6_worthOf_X6_takes : GoodIn wsX6_worthOf (wsV RX6 124 RX6 yX6_takes wsX6_takes) := goodIn_app (goodIn_of _ (by decide +kernel)) ggX6_worthOf_X6_takes
theorem dX6_worthOf_0 : decode cX6_worthOf 0 = .ok (.iconst 0, 1) := by decide +kernel
theorem dX6_worthOf_1 : decode cX6_worthOf 1 = .ok (.istore_n 3, 1) := by decide +kernel
theorem dX6_worthOf_2 : decode cX6_worthOf 2 = .ok (.aload_n 0, 1) := by decide +kernel
theorem dX6_worthOf_3 : decode cX6_worthOf 3 = .ok (.iconst 0, 1) := by decide +kernel
theorem dX6_worthOf_4 : decode cX6_worthOf 4 = .ok (.iload_n 1, 1) := by decide +kernel
theorem dX6_worthOf_5 : decode cX6_worthOf 5 = .ok (.invokevirtual 113, 3) := by decide +kernel
theorem dX6_worthOf_8 : decode cX6_worthOf 8 = .ok (.iconst (-1), 1) := by decide +kernel
theorem dX6_worthOf_9 : decode cX6_worthOf 9 = .ok (.istore 4, 2) := by decide +kernel
theorem dX6_worthOf_11 : decode cX6_worthOf 11 = .ok (.iload_n 3, 1) := by decide +kernel
theorem dX6_worthOf_12 : decode cX6_worthOf 12 = .ok (.iload_n 2, 1) := by decide +kernel
theorem dX6_worthOf_13 : decode cX6_worthOf 13 = .ok (.if_icmp .ne 22, 3) := by decide +kernel
theorem dX6_worthOf_16 : decode cX6_worthOf 16 = .ok (.aload_n 0, 1) := by decide +kernel
theorem dX6_worthOf_17 : decode cX6_worthOf 17 = .ok (.bipush 32, 2) := by decide +kernel
theorem dX6_worthOf_19 : decode cX6_worthOf 19 = .ok (.iload_n 3, 1) := by decide +kernel
theorem dX6_worthOf_20 : decode cX6_worthOf 20 = .ok (.imul, 1) := by decide +kernel
theorem dX6_worthOf_21 : decode cX6_worthOf 21 = .ok (.aload_n 0, 1) := by decide +kernel
theorem dX6_worthOf_22 : decode cX6_worthOf 22 = .ok (.getfield 38, 3) := by decide +kernel
theorem dX6_worthOf_25 : decode cX6_worthOf 25 = .ok (.iload_n 3, 1) := by decide +kernel
theorem dX6_worthOf_26 : decode cX6_worthOf 26 = .ok (.iaload, 1) := by decide +kernel
theorem dX6_worthOf_27 : decode cX6_worthOf 27 = .ok (.invokevirtual 117, 3) := by decide +kernel
theorem dX6_worthOf_30 : decode cX6_worthOf 30 = .ok (.istore 4, 2) := by decide +kernel
theorem dX6_worthOf_32 : decode cX6_worthOf 32 = .ok (.goto 97, 3) := by decide +kernel
theorem dX6_worthOf_35 : decode cX6_worthOf 35 = .ok (.aload_n 0, 1) := by decide +kernel
theorem dX6_worthOf_36 : decode cX6_worthOf 36 = .ok (.iload_n 3, 1) := by decide +kernel
theorem dX6_worthOf_37 : decode cX6_worthOf 37 = .ok (.invokevirtual 121, 3) := by decide +kernel
theorem dX6_worthOf_40 : decode cX6_worthOf 40 = .ok (.ifCond .eq 9, 3) := by decide +kernel
theorem dX6_worthOf_43 : decode cX6_worthOf 43 = .ok (.iinc 3 1, 3) := by decide +kernel
theorem dX6_worthOf_46 : decode cX6_worthOf 46 = .ok (.goto 83, 3) := by decide +kernel
theorem dX6_worthOf_49 : decode cX6_worthOf 49 = .ok (.aload_n 0, 1) := by decide +kernel
theorem dX6_worthOf_50 : decode cX6_worthOf 50 = .ok (.getfield 50, 3) := by decide +kernel
theorem dX6_worthOf_53 : decode cX6_worthOf 53 = .ok (.iload_n 3, 1) := by decide +kernel
theorem dX6_worthOf_54 : decode cX6_worthOf 54 = .ok (.dup2, 1) := by decide +kernel
theorem dX6_worthOf_55 : decode cX6_worthOf 55 = .ok (.laload, 1) := by decide +kernel
theorem dX6_worthOf_56 : decode cX6_worthOf 56 = .ok (.aload_n 0, 1) := by decide +kernel
theorem dX6_worthOf_57 : decode cX6_worthOf 57 = .ok (.getfield 23, 3) := by decide +kernel
theorem dX6_worthOf_60 : decode cX6_worthOf 60 = .ok (.aload_n 0, 1) := by decide +kernel
theorem dX6_worthOf_61 : decode cX6_worthOf 61 = .ok (.getfield 41, 3) := by decide +kernel
theorem dX6_worthOf_64 : decode cX6_worthOf 64 = .ok (.iload_n 3, 1) := by decide +kernel
theorem dX6_worthOf_65 : decode cX6_worthOf 65 = .ok (.iaload, 1) := by decide +kernel
theorem dX6_worthOf_66 : decode cX6_worthOf 66 = .ok (.iaload, 1) := by decide +kernel
theorem dX6_worthOf_67 : decode cX6_worthOf 67 = .ok (.i2l, 1) := by decide +kernel
theorem dX6_worthOf_68 : decode cX6_worthOf 68 = .ok (.aload_n 0, 1) := by decide +kernel
theorem dX6_worthOf_69 : decode cX6_worthOf 69 = .ok (.getfield 47, 3) := by decide +kernel
theorem dX6_worthOf_72 : decode cX6_worthOf 72 = .ok (.iload_n 3, 1) := by decide +kernel
theorem dX6_worthOf_73 : decode cX6_worthOf 73 = .ok (.iaload, 1) := by decide +kernel
theorem dX6_worthOf_74 : decode cX6_worthOf 74 = .ok (.i2l, 1) := by decide +kernel
theorem dX6_worthOf_75 : decode cX6_worthOf 75 = .ok (.lmul, 1) := by decide +kernel
theorem dX6_worthOf_76 : decode cX6_worthOf 76 = .ok (.ladd, 1) := by decide +kernel
theorem dX6_worthOf_77 : decode cX6_worthOf 77 = .ok (.lastore, 1) := by decide +kernel
theorem dX6_worthOf_78 : decode cX6_worthOf 78 = .ok (.aload_n 0, 1) := by decide +kernel
theorem dX6_worthOf_79 : decode cX6_worthOf 79 = .ok (.getfield 41, 3) := by decide +kernel
theorem dX6_worthOf_82 : decode cX6_worthOf 82 = .ok (.iload_n 3, 1) := by decide +kernel
theorem dX6_worthOf_83 : decode cX6_worthOf 83 = .ok (.dup2, 1) := by decide +kernel
theorem dX6_worthOf_84 : decode cX6_worthOf 84 = .ok (.iaload, 1) := by decide +kernel
theorem dX6_worthOf_85 : decode cX6_worthOf 85 = .ok (.iconst 1, 1) := by decide +kernel
theorem dX6_worthOf_86 : decode cX6_worthOf 86 = .ok (.iadd, 1) := by decide +kernel
theorem dX6_worthOf_87 : decode cX6_worthOf 87 = .ok (.iastore, 1) := by decide +kernel
theorem dX6_worthOf_88 : decode cX6_worthOf 88 = .ok (.aload_n 0, 1) := by decide +kernel
theorem dX6_worthOf_89 : decode cX6_worthOf 89 = .ok (.getfield 44, 3) := by decide +kernel
theorem dX6_worthOf_92 : decode cX6_worthOf 92 = .ok (.iload_n 3, 1) := by decide +kernel
theorem dX6_worthOf_93 : decode cX6_worthOf 93 = .ok (.iconst 0, 1) := by decide +kernel
theorem dX6_worthOf_94 : decode cX6_worthOf 94 = .ok (.iastore, 1) := by decide +kernel
theorem dX6_worthOf_95 : decode cX6_worthOf 95 = .ok (.aload_n 0, 1) := by decide +kernel
theorem dX6_worthOf_96 : decode cX6_worthOf 96 = .ok (.getfield 47, 3) := by decide +kernel
theorem dX6_worthOf_99 : decode cX6_worthOf 99 = .ok (.iload_n 3, 1) := by decide +kernel
theorem dX6_worthOf_100 : decode cX6_worthOf 100 = .ok (.iconst (-1), 1) := by decide +kernel
theorem dX6_worthOf_101 : decode cX6_worthOf 101 = .ok (.iastore, 1) := by decide +kernel
theorem dX6_worthOf_102 : decode cX6_worthOf 102 = .ok (.aload_n 0, 1) := by decide +kernel
theorem dX6_worthOf_103 : decode cX6_worthOf 103 = .ok (.getfield 41, 3) := by decide +kernel
theorem dX6_worthOf_106 : decode cX6_worthOf 106 = .ok (.iload_n 3, 1) := by decide +kernel
theorem dX6_worthOf_107 : decode cX6_worthOf 107 = .ok (.iaload, 1) := by decide +kernel
theorem dX6_worthOf_108 : decode cX6_worthOf 108 = .ok (.iconst 5, 1) := by decide +kernel
theorem dX6_worthOf_109 : decode cX6_worthOf 109 = .ok (.if_icmp .ne 17, 3) := by decide +kernel
theorem dX6_worthOf_112 : decode cX6_worthOf 112 = .ok (.aload_n 0, 1) := by decide +kernel
theorem dX6_worthOf_113 : decode cX6_worthOf 113 = .ok (.getfield 50, 3) := by decide +kernel
theorem dX6_worthOf_116 : decode cX6_worthOf 116 = .ok (.iload_n 3, 1) := by decide +kernel
theorem dX6_worthOf_117 : decode cX6_worthOf 117 = .ok (.laload, 1) := by decide +kernel
theorem dX6_worthOf_118 : decode cX6_worthOf 118 = .ok (.ldc2_w 84, 3) := by decide +kernel
theorem dX6_worthOf_121 : decode cX6_worthOf 121 = .ok (.ldiv, 1) := by decide +kernel
theorem dX6_worthOf_122 : decode cX6_worthOf 122 = .ok (.l2i, 1) := by decide +kernel
theorem dX6_worthOf_123 : decode cX6_worthOf 123 = .ok (.goto 4, 3) := by decide +kernel
theorem dX6_worthOf_126 : decode cX6_worthOf 126 = .ok (.iconst (-1), 1) := by decide +kernel
theorem dX6_worthOf_127 : decode cX6_worthOf 127 = .ok (.istore 4, 2) := by decide +kernel
theorem dX6_worthOf_129 : decode cX6_worthOf 129 = .ok (.iload 4, 2) := by decide +kernel
theorem dX6_worthOf_131 : decode cX6_worthOf 131 = .ok (.iconst (-1), 1) := by decide +kernel
theorem dX6_worthOf_132 : decode cX6_worthOf 132 = .ok (.if_icmp .eq 10, 3) := by decide +kernel
theorem dX6_worthOf_135 : decode cX6_worthOf 135 = .ok (.iload_n 3, 1) := by decide +kernel
theorem dX6_worthOf_136 : decode cX6_worthOf 136 = .ok (.ifCond .ne 6, 3) := by decide +kernel
theorem dX6_worthOf_139 : decode cX6_worthOf 139 = .ok (.iload 4, 2) := by decide +kernel
theorem dX6_worthOf_141 : decode cX6_worthOf 141 = .ok (.ireturn, 1) := by decide +kernel
theorem dX6_worthOf_142 : decode cX6_worthOf 142 = .ok (.iload 4, 2) := by decide +kernel
theorem dX6_worthOf_144 : decode cX6_worthOf 144 = .ok (.iconst (-1), 1) := by decide +kernel
theorem dX6_worthOf_145 : decode cX6_worthOf 145 = .ok (.if_icmp .eq 21, 3) := by decide +kernel
theorem dX6_worthOf_148 : decode cX6_worthOf 148 = .ok (.iinc 3 (-1), 3) := by decide +kernel
theorem dX6_worthOf_151 : decode cX6_worthOf 151 = .ok (.aload_n 0, 1) := by decide +kernel
theorem dX6_worthOf_152 : decode cX6_worthOf 152 = .ok (.iload_n 3, 1) := by decide +kernel
theorem dX6_worthOf_153 : decode cX6_worthOf 153 = .ok (.aload_n 0, 1) := by decide +kernel
theorem dX6_worthOf_154 : decode cX6_worthOf 154 = .ok (.getfield 38, 3) := by decide +kernel
theorem dX6_worthOf_157 : decode cX6_worthOf 157 = .ok (.iload_n 3, 1) := by decide +kernel
theorem dX6_worthOf_158 : decode cX6_worthOf 158 = .ok (.iconst 1, 1) := by decide +kernel
theorem dX6_worthOf_159 : decode cX6_worthOf 159 = .ok (.iadd, 1) := by decide +kernel
theorem dX6_worthOf_160 : decode cX6_worthOf 160 = .ok (.iaload, 1) := by decide +kernel
theorem dX6_worthOf_161 : decode cX6_worthOf 161 = .ok (.iload 4, 2) := by decide +kernel
theorem dX6_worthOf_163 : decode cX6_worthOf 163 = .ok (.invokevirtual 124, 3) := by decide +kernel
theorem dX6_worthOf_166 : decode cX6_worthOf 166 = .ok (.goto (-158), 3) := by decide +kernel
theorem dX6_lays_0 : decode cX6_lays 0 = .ok (.iconst 0, 1) := by decide +kernel
theorem dX6_lays_1 : decode cX6_lays 1 = .ok (.istore_n 1, 1) := by decide +kernel
theorem dX6_lays_2 : decode cX6_lays 2 = .ok (.iload_n 1, 1) := by decide +kernel
theorem dX6_lays_3 : decode cX6_lays 3 = .ok (.bipush 32, 2) := by decide +kernel
theorem dX6_lays_5 : decode cX6_lays 5 = .ok (.if_icmp .ge 21, 3) := by decide +kernel
theorem dX6_lays_8 : decode cX6_lays 8 = .ok (.aload_n 0, 1) := by decide +kernel
theorem dX6_lays_9 : decode cX6_lays 9 = .ok (.getfield 35, 3) := by decide +kernel
theorem dX6_lays_12 : decode cX6_lays 12 = .ok (.iload_n 1, 1) := by decide +kernel
theorem dX6_lays_13 : decode cX6_lays 13 = .ok (.aload_n 0, 1) := by decide +kernel
theorem dX6_lays_14 : decode cX6_lays 14 = .ok (.getfield 20, 3) := by decide +kernel
theorem dX6_lays_17 : decode cX6_lays 17 = .ok (.iload_n 1, 1) := by decide +kernel
theorem dX6_lays_18 : decode cX6_lays 18 = .ok (.iaload, 1) := by decide +kernel
theorem dX6_lays_19 : decode cX6_lays 19 = .ok (.iastore, 1) := by decide +kernel
theorem dX6_lays_20 : decode cX6_lays 20 = .ok (.iinc 1 1, 3) := by decide +kernel
theorem dX6_lays_23 : decode cX6_lays 23 = .ok (.goto (-21), 3) := by decide +kernel
theorem dX6_lays_26 : decode cX6_lays 26 = .ok (.return_, 1) := by decide +kernel
set_option maxRecDepth 20000 in
theorem ggX6_layBehind_X6_canMove : GoodIn wsX6_layBehind wsX6_canMove := goodIn_r _ [11] (by decide +kernel) (by decide +kernel)
set_option maxRecDepth 20000 in
theorem gX6_layBehind_X6_canMove : GoodIn wsX6_layBehind (va_wsS RX6 102 yX6_canMove wsX6_canMove) := goodIn_app (goodIn_of _ (by decide +kernel)) ggX6_layBehind_X6_canMove
set_option maxRecDepth 20000 in
theorem ggX6_layBehind_X6_lays : GoodIn wsX6_layBehind wsX6_lays := goodIn_r _ [15, 5, 3, 71, 72, 73, 74, 75, 76, 77, 78, 79, 80, 81, 82, 83, 84, 85, 86, 87, 88, 89] (by decide +kernel) (by decide +kernel)
set_option maxRecDepth 20000 in
theorem gX6_layBehind_X6_lays : GoodIn wsX6_layBehind (wsV RX6 131 RX6 yX6_lays wsX6_lays) := goodIn_app (goodIn_of _ (by decide +kernel)) ggX6_layBehind_X6_lays
set_option maxRecDepth 20000 in
theorem ggX6_layBehind_X6_shifts : GoodIn wsX6_layBehind wsX6_shifts := goodIn_r _ [18, 19, 20, 10, 21, 22, 23, 24] (by decide +kernel) (by decide +kernel)
set_option maxRecDepth 20000 in
theorem gX6_layBehind_X6_shifts : GoodIn wsX6_layBehind (va_wsS RX6 109 yX6_shifts wsX6_shifts) := goodIn_app (goodIn_of _ (by decide +kernel)) ggX6_layBehind_X6_shifts
set_option maxRecDepth 20000 in
theorem ggX6_layBehind_X6_isRosette : GoodIn wsX6_layBehind wsX6_isRosette := goodIn_r _ [27] (by decide +kernel) (by decide +kernel)
set_option maxRecDepth 20000 in
theorem gX6_layBehind_X6_isRosette : GoodIn wsX6_layBehind (va_wsS RX6 76 yX6_isRosette wsX6_isRosette) := goodIn_app (goodIn_of _ (by decide +kernel)) ggX6_layBehind_X6_isRosette
set_option maxRecDepth 20000 in
theorem ggX6_layBehind_X6_worthOf : GoodIn wsX6_layBehind wsX6_worthOf := goodIn_r _ [31, 32, 33, 34, 35, 36, 37, 38, 39, 40, 41, 10, 42, 43, 44, 45, 46, 5, 47, 48, 49, 50, 51, 52, 53, 54, 6, 55, 56, 57, 58, 59, 60, 61, 62, 7, 8, 9, 11, 63, 64, 65, 66, 16, 17, 18, 19, 20, 21, 22, 23, 24, 25, 26, 27, 67, 68, 69, 70, 71, 72, 73, 74, 75, 76, 77, 78, 79, 80, 81, 82, 83, 84, 85, 86, 87, 88, 89] (by decide +kernel) (by decide +kernel)
set_option maxRecDepth 20000 in
theorem gX6_layBehind_X6_worthOf : GoodIn wsX6_layBehind (wsV RX6 134 RX6 yX6_worthOf wsX6_worthOf) := goodIn_app (goodIn_of _ (by decide +kernel)) ggX6_layBehind_X6_worthOf
theorem dX6_layBehind_0 : decode cX6_layBehind 0 = .ok (.iconst 0, 1) := by decide +kernel
theorem dX6_layBehind_1 : decode cX6_layBehind 1 = .ok (.istore_n 2, 1) := by decide +kernel
theorem dX6_layBehind_2 : decode cX6_layBehind 2 = .ok (.iload_n 2, 1) := by decide +kernel
theorem dX6_layBehind_3 : decode cX6_layBehind 3 = .ok (.bipush 15, 2) := by decide +kernel
theorem dX6_layBehind_5 : decode cX6_layBehind 5 = .ok (.if_icmp .ge 171, 3) := by decide +kernel
theorem dX6_layBehind_8 : decode cX6_layBehind 8 = .ok (.aload_n 0, 1) := by decide +kernel
theorem dX6_layBehind_9 : decode cX6_layBehind 9 = .ok (.getfield 54, 3) := by decide +kernel
theorem dX6_layBehind_12 : decode cX6_layBehind 12 = .ok (.iload_n 2, 1) := by decide +kernel
theorem dX6_layBehind_13 : decode cX6_layBehind 13 = .ok (.iconst (-1), 1) := by decide +kernel
theorem dX6_layBehind_14 : decode cX6_layBehind 14 = .ok (.iastore, 1) := by decide +kernel
theorem dX6_layBehind_15 : decode cX6_layBehind 15 = .ok (.aload_n 0, 1) := by decide +kernel
theorem dX6_layBehind_16 : decode cX6_layBehind 16 = .ok (.getfield 9, 3) := by decide +kernel
theorem dX6_layBehind_19 : decode cX6_layBehind 19 = .ok (.iconst (-1), 1) := by decide +kernel
theorem dX6_layBehind_20 : decode cX6_layBehind 20 = .ok (.if_icmp .eq 150, 3) := by decide +kernel
theorem dX6_layBehind_23 : decode cX6_layBehind 23 = .ok (.aload_n 0, 1) := by decide +kernel
theorem dX6_layBehind_24 : decode cX6_layBehind 24 = .ok (.getfield 20, 3) := by decide +kernel
theorem dX6_layBehind_27 : decode cX6_layBehind 27 = .ok (.iconst 0, 1) := by decide +kernel
theorem dX6_layBehind_28 : decode cX6_layBehind 28 = .ok (.aload_n 0, 1) := by decide +kernel
theorem dX6_layBehind_29 : decode cX6_layBehind 29 = .ok (.getfield 128, 3) := by decide +kernel
theorem dX6_layBehind_32 : decode cX6_layBehind 32 = .ok (.iload_n 2, 1) := by decide +kernel
theorem dX6_layBehind_33 : decode cX6_layBehind 33 = .ok (.aload_n 0, 1) := by decide +kernel
theorem dX6_layBehind_34 : decode cX6_layBehind 34 = .ok (.getfield 9, 3) := by decide +kernel
theorem dX6_layBehind_37 : decode cX6_layBehind 37 = .ok (.invokestatic 102, 3) := by decide +kernel
theorem dX6_layBehind_40 : decode cX6_layBehind 40 = .ok (.ifCond .eq 130, 3) := by decide +kernel
theorem dX6_layBehind_43 : decode cX6_layBehind 43 = .ok (.aload_n 0, 1) := by decide +kernel
theorem dX6_layBehind_44 : decode cX6_layBehind 44 = .ok (.invokevirtual 131, 3) := by decide +kernel
theorem dX6_layBehind_47 : decode cX6_layBehind 47 = .ok (.aload_n 0, 1) := by decide +kernel
theorem dX6_layBehind_48 : decode cX6_layBehind 48 = .ok (.getfield 35, 3) := by decide +kernel
theorem dX6_layBehind_51 : decode cX6_layBehind 51 = .ok (.iconst 0, 1) := by decide +kernel
theorem dX6_layBehind_52 : decode cX6_layBehind 52 = .ok (.aload_n 0, 1) := by decide +kernel
theorem dX6_layBehind_53 : decode cX6_layBehind 53 = .ok (.getfield 128, 3) := by decide +kernel
theorem dX6_layBehind_56 : decode cX6_layBehind 56 = .ok (.iload_n 2, 1) := by decide +kernel
theorem dX6_layBehind_57 : decode cX6_layBehind 57 = .ok (.aload_n 0, 1) := by decide +kernel
theorem dX6_layBehind_58 : decode cX6_layBehind 58 = .ok (.getfield 9, 3) := by decide +kernel
theorem dX6_layBehind_61 : decode cX6_layBehind 61 = .ok (.invokestatic 109, 3) := by decide +kernel
theorem dX6_layBehind_64 : decode cX6_layBehind 64 = .ok (.istore_n 3, 1) := by decide +kernel
theorem dX6_layBehind_65 : decode cX6_layBehind 65 = .ok (.iload_n 2, 1) := by decide +kernel
theorem dX6_layBehind_66 : decode cX6_layBehind 66 = .ok (.aload_n 0, 1) := by decide +kernel
theorem dX6_layBehind_67 : decode cX6_layBehind 67 = .ok (.getfield 9, 3) := by decide +kernel
theorem dX6_layBehind_70 : decode cX6_layBehind 70 = .ok (.iadd, 1) := by decide +kernel
theorem dX6_layBehind_71 : decode cX6_layBehind 71 = .ok (.invokestatic 76, 3) := by decide +kernel
theorem dX6_layBehind_74 : decode cX6_layBehind 74 = .ok (.ifCond .eq 10, 3) := by decide +kernel
theorem dX6_layBehind_77 : decode cX6_layBehind 77 = .ok (.aload_n 0, 1) := by decide +kernel
theorem dX6_layBehind_78 : decode cX6_layBehind 78 = .ok (.getfield 128, 3) := by decide +kernel
theorem dX6_layBehind_81 : decode cX6_layBehind 81 = .ok (.goto 9, 3) := by decide +kernel
theorem dX6_layBehind_84 : decode cX6_layBehind 84 = .ok (.iconst 1, 1) := by decide +kernel
theorem dX6_layBehind_85 : decode cX6_layBehind 85 = .ok (.aload_n 0, 1) := by decide +kernel
theorem dX6_layBehind_86 : decode cX6_layBehind 86 = .ok (.getfield 128, 3) := by decide +kernel
theorem dX6_layBehind_89 : decode cX6_layBehind 89 = .ok (.isub, 1) := by decide +kernel
theorem dX6_layBehind_90 : decode cX6_layBehind 90 = .ok (.istore 4, 2) := by decide +kernel
theorem dX6_layBehind_92 : decode cX6_layBehind 92 = .ok (.aload_n 0, 1) := by decide +kernel
theorem dX6_layBehind_93 : decode cX6_layBehind 93 = .ok (.getfield 35, 3) := by decide +kernel
theorem dX6_layBehind_96 : decode cX6_layBehind 96 = .ok (.bipush 16, 2) := by decide +kernel
theorem dX6_layBehind_98 : decode cX6_layBehind 98 = .ok (.aload_n 0, 1) := by decide +kernel
theorem dX6_layBehind_99 : decode cX6_layBehind 99 = .ok (.getfield 128, 3) := by decide +kernel
theorem dX6_layBehind_102 : decode cX6_layBehind 102 = .ok (.imul, 1) := by decide +kernel
theorem dX6_layBehind_103 : decode cX6_layBehind 103 = .ok (.bipush 15, 2) := by decide +kernel
theorem dX6_layBehind_105 : decode cX6_layBehind 105 = .ok (.iadd, 1) := by decide +kernel
theorem dX6_layBehind_106 : decode cX6_layBehind 106 = .ok (.iaload, 1) := by decide +kernel
theorem dX6_layBehind_107 : decode cX6_layBehind 107 = .ok (.aload_n 0, 1) := by decide +kernel
theorem dX6_layBehind_108 : decode cX6_layBehind 108 = .ok (.getfield 90, 3) := by decide +kernel
theorem dX6_layBehind_111 : decode cX6_layBehind 111 = .ok (.if_icmp .ne 7, 3) := by decide +kernel
theorem dX6_layBehind_114 : decode cX6_layBehind 114 = .ok (.iconst 1, 1) := by decide +kernel
theorem dX6_layBehind_115 : decode cX6_layBehind 115 = .ok (.goto 4, 3) := by decide +kernel
theorem dX6_layBehind_118 : decode cX6_layBehind 118 = .ok (.iconst 0, 1) := by decide +kernel
theorem dX6_layBehind_119 : decode cX6_layBehind 119 = .ok (.istore 5, 2) := by decide +kernel
theorem dX6_layBehind_121 : decode cX6_layBehind 121 = .ok (.iload 5, 2) := by decide +kernel
theorem dX6_layBehind_123 : decode cX6_layBehind 123 = .ok (.ifCond .eq 8, 3) := by decide +kernel
theorem dX6_layBehind_126 : decode cX6_layBehind 126 = .ok (.ldc 71, 2) := by decide +kernel
theorem dX6_layBehind_128 : decode cX6_layBehind 128 = .ok (.goto 10, 3) := by decide +kernel
theorem dX6_layBehind_131 : decode cX6_layBehind 131 = .ok (.aload_n 0, 1) := by decide +kernel
theorem dX6_layBehind_132 : decode cX6_layBehind 132 = .ok (.iload 4, 2) := by decide +kernel
theorem dX6_layBehind_134 : decode cX6_layBehind 134 = .ok (.iload_n 1, 1) := by decide +kernel
theorem dX6_layBehind_135 : decode cX6_layBehind 135 = .ok (.invokevirtual 134, 3) := by decide +kernel
theorem dX6_layBehind_138 : decode cX6_layBehind 138 = .ok (.istore 6, 2) := by decide +kernel
theorem dX6_layBehind_140 : decode cX6_layBehind 140 = .ok (.aload_n 0, 1) := by decide +kernel
theorem dX6_layBehind_141 : decode cX6_layBehind 141 = .ok (.getfield 54, 3) := by decide +kernel
theorem dX6_layBehind_144 : decode cX6_layBehind 144 = .ok (.iload_n 2, 1) := by decide +kernel
theorem dX6_layBehind_145 : decode cX6_layBehind 145 = .ok (.iload 5, 2) := by decide +kernel
theorem dX6_layBehind_147 : decode cX6_layBehind 147 = .ok (.ifCond .ne 12, 3) := by decide +kernel
theorem dX6_layBehind_150 : decode cX6_layBehind 150 = .ok (.iload 4, 2) := by decide +kernel
theorem dX6_layBehind_152 : decode cX6_layBehind 152 = .ok (.aload_n 0, 1) := by decide +kernel
theorem dX6_layBehind_153 : decode cX6_layBehind 153 = .ok (.getfield 128, 3) := by decide +kernel
theorem dX6_layBehind_156 : decode cX6_layBehind 156 = .ok (.if_icmp .ne 8, 3) := by decide +kernel
theorem dX6_layBehind_159 : decode cX6_layBehind 159 = .ok (.iload 6, 2) := by decide +kernel
theorem dX6_layBehind_161 : decode cX6_layBehind 161 = .ok (.goto 8, 3) := by decide +kernel
theorem dX6_layBehind_164 : decode cX6_layBehind 164 = .ok (.ldc 71, 2) := by decide +kernel
theorem dX6_layBehind_166 : decode cX6_layBehind 166 = .ok (.iload 6, 2) := by decide +kernel
theorem dX6_layBehind_168 : decode cX6_layBehind 168 = .ok (.isub, 1) := by decide +kernel
theorem dX6_layBehind_169 : decode cX6_layBehind 169 = .ok (.iastore, 1) := by decide +kernel
theorem dX6_layBehind_170 : decode cX6_layBehind 170 = .ok (.iinc 2 1, 3) := by decide +kernel
theorem dX6_layBehind_173 : decode cX6_layBehind 173 = .ok (.goto (-171), 3) := by decide +kernel
theorem dX6_layBehind_176 : decode cX6_layBehind 176 = .ok (.return_, 1) := by decide +kernel
set_option maxRecDepth 20000 in
theorem ggX6_worthNow_X6_lays : GoodIn wsX6_worthNow wsX6_lays := goodIn_r _ [10, 11, 12, 76, 77, 78, 79, 80, 81, 82, 83, 84, 85, 86, 87, 88, 89, 90, 91, 92, 93, 94] (by decide +kernel) (by decide +kernel)
set_option maxRecDepth 20000 in
theorem gX6_worthNow_X6_lays : GoodIn wsX6_worthNow (wsV RX6 131 RX6 yX6_lays wsX6_lays) := goodIn_app (goodIn_of _ (by decide +kernel)) ggX6_worthNow_X6_lays
set_option maxRecDepth 20000 in
theorem ggX6_worthNow_X6_worthOf : GoodIn wsX6_worthNow wsX6_worthOf := goodIn_r _ [16, 17, 18, 19, 20, 21, 22, 23, 24, 25, 26, 9, 27, 28, 29, 30, 31, 11, 32, 33, 34, 35, 36, 37, 38, 39, 40, 41, 42, 43, 44, 45, 46, 47, 48, 3, 49, 50, 51, 52, 53, 54, 55, 56, 57, 58, 59, 60, 61, 62, 63, 64, 65, 66, 67, 68, 69, 70, 71, 76, 77, 78, 79, 80, 81, 82, 83, 84, 85, 86, 87, 88, 89, 90, 91, 92, 93, 94] (by decide +kernel) (by decide +kernel)
set_option maxRecDepth 20000 in
theorem gX6_worthNow_X6_worthOf : GoodIn wsX6_worthNow (wsV RX6 134 RX6 yX6_worthOf wsX6_worthOf) := goodIn_app (goodIn_of _ (by decide +kernel)) ggX6_worthNow_X6_worthOf
set_option maxRecDepth 20000 in
theorem ggX6_worthNow_X6_layBehind : GoodIn wsX6_worthNow wsX6_layBehind := goodIn_r _ [75, 5, 4, 12, 2, 11, 40, 3, 49, 50, 9, 51, 6, 7, 8, 10, 56, 57, 58, 59, 60, 61, 62, 63, 64, 65, 66, 67, 13, 14, 15, 16, 17, 18, 19, 20, 21, 22, 23, 24, 25, 26, 27, 28, 29, 30, 31, 32, 33, 34, 35, 36, 37, 38, 39, 41, 42, 43, 44, 45, 46, 47, 48, 52, 53, 54, 55, 68, 69, 70, 71, 76, 77, 78, 79, 80, 81, 82, 83, 84, 85, 86, 87, 88, 89, 90, 91, 92, 93, 94] (by decide +kernel) (by decide +kernel)
set_option maxRecDepth 20000 in
theorem gX6_worthNow_X6_layBehind : GoodIn wsX6_worthNow (wsV RX6 137 RX6 yX6_layBehind wsX6_layBehind) := goodIn_app (goodIn_of _ (by decide +kernel)) ggX6_worthNow_X6_layBehind
theorem dX6_worthNow_0 : decode cX6_worthNow 0 = .ok (.aload_n 0, 1) := by decide +kernel
theorem dX6_worthNow_1 : decode cX6_worthNow 1 = .ok (.getfield 13, 3) := by decide +kernel
theorem dX6_worthNow_4 : decode cX6_worthNow 4 = .ok (.iconst (-1), 1) := by decide +kernel
theorem dX6_worthNow_5 : decode cX6_worthNow 5 = .ok (.if_icmp .eq 21, 3) := by decide +kernel
theorem dX6_worthNow_8 : decode cX6_worthNow 8 = .ok (.aload_n 0, 1) := by decide +kernel
theorem dX6_worthNow_9 : decode cX6_worthNow 9 = .ok (.getfield 13, 3) := by decide +kernel
theorem dX6_worthNow_12 : decode cX6_worthNow 12 = .ok (.aload_n 0, 1) := by decide +kernel
theorem dX6_worthNow_13 : decode cX6_worthNow 13 = .ok (.getfield 128, 3) := by decide +kernel
theorem dX6_worthNow_16 : decode cX6_worthNow 16 = .ok (.if_icmp .ne 8, 3) := by decide +kernel
theorem dX6_worthNow_19 : decode cX6_worthNow 19 = .ok (.ldc 71, 2) := by decide +kernel
theorem dX6_worthNow_21 : decode cX6_worthNow 21 = .ok (.goto 4, 3) := by decide +kernel
theorem dX6_worthNow_24 : decode cX6_worthNow 24 = .ok (.iconst 0, 1) := by decide +kernel
theorem dX6_worthNow_25 : decode cX6_worthNow 25 = .ok (.ireturn, 1) := by decide +kernel
theorem dX6_worthNow_26 : decode cX6_worthNow 26 = .ok (.aload_n 0, 1) := by decide +kernel
theorem dX6_worthNow_27 : decode cX6_worthNow 27 = .ok (.getfield 9, 3) := by decide +kernel
theorem dX6_worthNow_30 : decode cX6_worthNow 30 = .ok (.iconst (-1), 1) := by decide +kernel
theorem dX6_worthNow_31 : decode cX6_worthNow 31 = .ok (.if_icmp .ne 17, 3) := by decide +kernel
theorem dX6_worthNow_34 : decode cX6_worthNow 34 = .ok (.aload_n 0, 1) := by decide +kernel
theorem dX6_worthNow_35 : decode cX6_worthNow 35 = .ok (.invokevirtual 131, 3) := by decide +kernel
theorem dX6_worthNow_38 : decode cX6_worthNow 38 = .ok (.aload_n 0, 1) := by decide +kernel
theorem dX6_worthNow_39 : decode cX6_worthNow 39 = .ok (.aload_n 0, 1) := by decide +kernel
theorem dX6_worthNow_40 : decode cX6_worthNow 40 = .ok (.getfield 128, 3) := by decide +kernel
theorem dX6_worthNow_43 : decode cX6_worthNow 43 = .ok (.iload_n 1, 1) := by decide +kernel
theorem dX6_worthNow_44 : decode cX6_worthNow 44 = .ok (.invokevirtual 134, 3) := by decide +kernel
theorem dX6_worthNow_47 : decode cX6_worthNow 47 = .ok (.ireturn, 1) := by decide +kernel
theorem dX6_worthNow_48 : decode cX6_worthNow 48 = .ok (.aload_n 0, 1) := by decide +kernel
theorem dX6_worthNow_49 : decode cX6_worthNow 49 = .ok (.iload_n 1, 1) := by decide +kernel
theorem dX6_worthNow_50 : decode cX6_worthNow 50 = .ok (.invokevirtual 137, 3) := by decide +kernel
theorem dX6_worthNow_53 : decode cX6_worthNow 53 = .ok (.iconst 0, 1) := by decide +kernel
theorem dX6_worthNow_54 : decode cX6_worthNow 54 = .ok (.istore_n 2, 1) := by decide +kernel
theorem dX6_worthNow_55 : decode cX6_worthNow 55 = .ok (.iconst 0, 1) := by decide +kernel
theorem dX6_worthNow_56 : decode cX6_worthNow 56 = .ok (.istore_n 3, 1) := by decide +kernel
theorem dX6_worthNow_57 : decode cX6_worthNow 57 = .ok (.iload_n 3, 1) := by decide +kernel
theorem dX6_worthNow_58 : decode cX6_worthNow 58 = .ok (.bipush 15, 2) := by decide +kernel
theorem dX6_worthNow_60 : decode cX6_worthNow 60 = .ok (.if_icmp .ge 30, 3) := by decide +kernel
theorem dX6_worthNow_63 : decode cX6_worthNow 63 = .ok (.aload_n 0, 1) := by decide +kernel
theorem dX6_worthNow_64 : decode cX6_worthNow 64 = .ok (.getfield 54, 3) := by decide +kernel
theorem dX6_worthNow_67 : decode cX6_worthNow 67 = .ok (.iload_n 3, 1) := by decide +kernel
theorem dX6_worthNow_68 : decode cX6_worthNow 68 = .ok (.iaload, 1) := by decide +kernel
theorem dX6_worthNow_69 : decode cX6_worthNow 69 = .ok (.iload_n 2, 1) := by decide +kernel
theorem dX6_worthNow_70 : decode cX6_worthNow 70 = .ok (.if_icmp .le 12, 3) := by decide +kernel
theorem dX6_worthNow_73 : decode cX6_worthNow 73 = .ok (.aload_n 0, 1) := by decide +kernel
theorem dX6_worthNow_74 : decode cX6_worthNow 74 = .ok (.getfield 54, 3) := by decide +kernel
theorem dX6_worthNow_77 : decode cX6_worthNow 77 = .ok (.iload_n 3, 1) := by decide +kernel
theorem dX6_worthNow_78 : decode cX6_worthNow 78 = .ok (.iaload, 1) := by decide +kernel
theorem dX6_worthNow_79 : decode cX6_worthNow 79 = .ok (.goto 4, 3) := by decide +kernel
theorem dX6_worthNow_82 : decode cX6_worthNow 82 = .ok (.iload_n 2, 1) := by decide +kernel
theorem dX6_worthNow_83 : decode cX6_worthNow 83 = .ok (.istore_n 2, 1) := by decide +kernel
theorem dX6_worthNow_84 : decode cX6_worthNow 84 = .ok (.iinc 3 1, 3) := by decide +kernel
theorem dX6_worthNow_87 : decode cX6_worthNow 87 = .ok (.goto (-30), 3) := by decide +kernel
theorem dX6_worthNow_90 : decode cX6_worthNow 90 = .ok (.iload_n 2, 1) := by decide +kernel
theorem dX6_worthNow_91 : decode cX6_worthNow 91 = .ok (.ireturn, 1) := by decide +kernel
theorem dX6_starts_0 : decode cX6_starts 0 = .ok (.aload_n 0, 1) := by decide +kernel
theorem dX6_starts_1 : decode cX6_starts 1 = .ok (.iload_n 1, 1) := by decide +kernel
theorem dX6_starts_2 : decode cX6_starts 2 = .ok (.putfield 90, 3) := by decide +kernel
theorem dX6_starts_5 : decode cX6_starts 5 = .ok (.aload_n 0, 1) := by decide +kernel
theorem dX6_starts_6 : decode cX6_starts 6 = .ok (.iconst 0, 1) := by decide +kernel
theorem dX6_starts_7 : decode cX6_starts 7 = .ok (.putfield 128, 3) := by decide +kernel
theorem dX6_starts_10 : decode cX6_starts 10 = .ok (.aload_n 0, 1) := by decide +kernel
theorem dX6_starts_11 : decode cX6_starts 11 = .ok (.iconst (-1), 1) := by decide +kernel
theorem dX6_starts_12 : decode cX6_starts 12 = .ok (.putfield 9, 3) := by decide +kernel
theorem dX6_starts_15 : decode cX6_starts 15 = .ok (.aload_n 0, 1) := by decide +kernel
theorem dX6_starts_16 : decode cX6_starts 16 = .ok (.iconst (-1), 1) := by decide +kernel
theorem dX6_starts_17 : decode cX6_starts 17 = .ok (.putfield 13, 3) := by decide +kernel
theorem dX6_starts_20 : decode cX6_starts 20 = .ok (.aload_n 0, 1) := by decide +kernel
theorem dX6_starts_21 : decode cX6_starts 21 = .ok (.iconst 0, 1) := by decide +kernel
theorem dX6_starts_22 : decode cX6_starts 22 = .ok (.putfield 140, 3) := by decide +kernel
theorem dX6_starts_25 : decode cX6_starts 25 = .ok (.iconst 0, 1) := by decide +kernel
theorem dX6_starts_26 : decode cX6_starts 26 = .ok (.istore_n 2, 1) := by decide +kernel
theorem dX6_starts_27 : decode cX6_starts 27 = .ok (.iload_n 2, 1) := by decide +kernel
theorem dX6_starts_28 : decode cX6_starts 28 = .ok (.bipush 32, 2) := by decide +kernel
theorem dX6_starts_30 : decode cX6_starts 30 = .ok (.if_icmp .ge 27, 3) := by decide +kernel
theorem dX6_starts_33 : decode cX6_starts 33 = .ok (.aload_n 0, 1) := by decide +kernel
theorem dX6_starts_34 : decode cX6_starts 34 = .ok (.getfield 20, 3) := by decide +kernel
theorem dX6_starts_37 : decode cX6_starts 37 = .ok (.iload_n 2, 1) := by decide +kernel
theorem dX6_starts_38 : decode cX6_starts 38 = .ok (.iload_n 2, 1) := by decide +kernel
theorem dX6_starts_39 : decode cX6_starts 39 = .ok (.bipush 16, 2) := by decide +kernel
theorem dX6_starts_41 : decode cX6_starts 41 = .ok (.irem, 1) := by decide +kernel
theorem dX6_starts_42 : decode cX6_starts 42 = .ok (.ifCond .ne 7, 3) := by decide +kernel
theorem dX6_starts_45 : decode cX6_starts 45 = .ok (.iload_n 1, 1) := by decide +kernel
theorem dX6_starts_46 : decode cX6_starts 46 = .ok (.goto 4, 3) := by decide +kernel
theorem dX6_starts_49 : decode cX6_starts 49 = .ok (.iconst 0, 1) := by decide +kernel
theorem dX6_starts_50 : decode cX6_starts 50 = .ok (.iastore, 1) := by decide +kernel
theorem dX6_starts_51 : decode cX6_starts 51 = .ok (.iinc 2 1, 3) := by decide +kernel
theorem dX6_starts_54 : decode cX6_starts 54 = .ok (.goto (-27), 3) := by decide +kernel
theorem dX6_starts_57 : decode cX6_starts 57 = .ok (.aload_n 0, 1) := by decide +kernel
theorem dX6_starts_58 : decode cX6_starts 58 = .ok (.getfield 16, 3) := by decide +kernel
theorem dX6_starts_61 : decode cX6_starts 61 = .ok (.iconst 0, 1) := by decide +kernel
theorem dX6_starts_62 : decode cX6_starts 62 = .ok (.iconst 0, 1) := by decide +kernel
theorem dX6_starts_63 : decode cX6_starts 63 = .ok (.iastore, 1) := by decide +kernel
theorem dX6_starts_64 : decode cX6_starts 64 = .ok (.aload_n 0, 1) := by decide +kernel
theorem dX6_starts_65 : decode cX6_starts 65 = .ok (.getfield 16, 3) := by decide +kernel
theorem dX6_starts_68 : decode cX6_starts 68 = .ok (.iconst 1, 1) := by decide +kernel
theorem dX6_starts_69 : decode cX6_starts 69 = .ok (.iconst 0, 1) := by decide +kernel
theorem dX6_starts_70 : decode cX6_starts 70 = .ok (.iastore, 1) := by decide +kernel
theorem dX6_starts_71 : decode cX6_starts 71 = .ok (.return_, 1) := by decide +kernel
set_option maxRecDepth 20000 in
theorem ggX6_begin_X6_in : GoodIn wsX6_begin wsX6_in := goodIn_r _ [5] (by decide +kernel) (by decide +kernel)
set_option maxRecDepth 20000 in
theorem gX6_begin_X6_in : GoodIn wsX6_begin (va_wsS RX6 67 yX6_in wsX6_in) := goodIn_app (goodIn_of _ (by decide +kernel)) ggX6_begin_X6_in
set_option maxRecDepth 20000 in
theorem ggX6_begin_X6_starts : GoodIn wsX6_begin wsX6_starts := goodIn_r _ [9, 10, 11, 12, 13, 14, 15, 16, 17, 18, 19, 20, 21, 22, 23, 24, 25, 26, 27, 28, 29, 30, 31, 32, 33, 34, 35] (by decide +kernel) (by decide +kernel)
set_option maxRecDepth 20000 in
theorem gX6_begin_X6_starts : GoodIn wsX6_begin (wsV RX6 61 RX6 yX6_starts wsX6_starts) := goodIn_app (goodIn_of _ (by decide +kernel)) ggX6_begin_X6_starts
theorem dX6_begin_0 : decode cX6_begin 0 = .ok (.aload_n 0, 1) := by decide +kernel
theorem dX6_begin_1 : decode cX6_begin 1 = .ok (.iload_n 1, 1) := by decide +kernel
theorem dX6_begin_2 : decode cX6_begin 2 = .ok (.iconst 1, 1) := by decide +kernel
theorem dX6_begin_3 : decode cX6_begin 3 = .ok (.iconst 4, 1) := by decide +kernel
theorem dX6_begin_4 : decode cX6_begin 4 = .ok (.invokestatic 67, 3) := by decide +kernel
theorem dX6_begin_7 : decode cX6_begin 7 = .ok (.ifCond .eq 7, 3) := by decide +kernel
theorem dX6_begin_10 : decode cX6_begin 10 = .ok (.iconst 0, 1) := by decide +kernel
theorem dX6_begin_11 : decode cX6_begin 11 = .ok (.goto 4, 3) := by decide +kernel
theorem dX6_begin_14 : decode cX6_begin 14 = .ok (.iconst 1, 1) := by decide +kernel
theorem dX6_begin_15 : decode cX6_begin 15 = .ok (.putfield 64, 3) := by decide +kernel
theorem dX6_begin_18 : decode cX6_begin 18 = .ok (.aload_n 0, 1) := by decide +kernel
theorem dX6_begin_19 : decode cX6_begin 19 = .ok (.getfield 64, 3) := by decide +kernel
theorem dX6_begin_22 : decode cX6_begin 22 = .ok (.ifCond .ne 8, 3) := by decide +kernel
theorem dX6_begin_25 : decode cX6_begin 25 = .ok (.aload_n 0, 1) := by decide +kernel
theorem dX6_begin_26 : decode cX6_begin 26 = .ok (.iload_n 1, 1) := by decide +kernel
theorem dX6_begin_27 : decode cX6_begin 27 = .ok (.invokevirtual 61, 3) := by decide +kernel
theorem dX6_begin_30 : decode cX6_begin 30 = .ok (.return_, 1) := by decide +kernel
set_option maxRecDepth 20000 in
theorem ggX6_countMoves_X6_canMove : GoodIn wsX6_countMoves wsX6_canMove := goodIn_r _ [6] (by decide +kernel) (by decide +kernel)
set_option maxRecDepth 20000 in
theorem gX6_countMoves_X6_canMove : GoodIn wsX6_countMoves (va_wsS RX6 102 yX6_canMove wsX6_canMove) := goodIn_app (goodIn_of _ (by decide +kernel)) ggX6_countMoves_X6_canMove
theorem dX6_countMoves_0 : decode cX6_countMoves 0 = .ok (.iconst 0, 1) := by decide +kernel
theorem dX6_countMoves_1 : decode cX6_countMoves 1 = .ok (.istore_n 2, 1) := by decide +kernel
theorem dX6_countMoves_2 : decode cX6_countMoves 2 = .ok (.iconst 0, 1) := by decide +kernel
theorem dX6_countMoves_3 : decode cX6_countMoves 3 = .ok (.istore_n 3, 1) := by decide +kernel
theorem dX6_countMoves_4 : decode cX6_countMoves 4 = .ok (.iload_n 3, 1) := by decide +kernel
theorem dX6_countMoves_5 : decode cX6_countMoves 5 = .ok (.bipush 15, 2) := by decide +kernel
theorem dX6_countMoves_7 : decode cX6_countMoves 7 = .ok (.if_icmp .ge 34, 3) := by decide +kernel
theorem dX6_countMoves_10 : decode cX6_countMoves 10 = .ok (.iload_n 2, 1) := by decide +kernel
theorem dX6_countMoves_11 : decode cX6_countMoves 11 = .ok (.aload_n 0, 1) := by decide +kernel
theorem dX6_countMoves_12 : decode cX6_countMoves 12 = .ok (.getfield 20, 3) := by decide +kernel
theorem dX6_countMoves_15 : decode cX6_countMoves 15 = .ok (.iconst 0, 1) := by decide +kernel
theorem dX6_countMoves_16 : decode cX6_countMoves 16 = .ok (.aload_n 0, 1) := by decide +kernel
theorem dX6_countMoves_17 : decode cX6_countMoves 17 = .ok (.getfield 128, 3) := by decide +kernel
theorem dX6_countMoves_20 : decode cX6_countMoves 20 = .ok (.iload_n 3, 1) := by decide +kernel
theorem dX6_countMoves_21 : decode cX6_countMoves 21 = .ok (.iload_n 1, 1) := by decide +kernel
theorem dX6_countMoves_22 : decode cX6_countMoves 22 = .ok (.invokestatic 102, 3) := by decide +kernel
theorem dX6_countMoves_25 : decode cX6_countMoves 25 = .ok (.ifCond .eq 7, 3) := by decide +kernel
theorem dX6_countMoves_28 : decode cX6_countMoves 28 = .ok (.iconst 1, 1) := by decide +kernel
theorem dX6_countMoves_29 : decode cX6_countMoves 29 = .ok (.goto 4, 3) := by decide +kernel
theorem dX6_countMoves_32 : decode cX6_countMoves 32 = .ok (.iconst 0, 1) := by decide +kernel
theorem dX6_countMoves_33 : decode cX6_countMoves 33 = .ok (.iadd, 1) := by decide +kernel
theorem dX6_countMoves_34 : decode cX6_countMoves 34 = .ok (.istore_n 2, 1) := by decide +kernel
theorem dX6_countMoves_35 : decode cX6_countMoves 35 = .ok (.iinc 3 1, 3) := by decide +kernel
theorem dX6_countMoves_38 : decode cX6_countMoves 38 = .ok (.goto (-34), 3) := by decide +kernel
theorem dX6_countMoves_41 : decode cX6_countMoves 41 = .ok (.iload_n 2, 1) := by decide +kernel
theorem dX6_countMoves_42 : decode cX6_countMoves 42 = .ok (.ireturn, 1) := by decide +kernel
set_option maxRecDepth 20000 in
theorem ggX6_tell_X6_in : GoodIn wsX6_tell wsX6_in := goodIn_r _ [9] (by decide +kernel) (by decide +kernel)
set_option maxRecDepth 20000 in
theorem gX6_tell_X6_in : GoodIn wsX6_tell (va_wsS RX6 67 yX6_in wsX6_in) := goodIn_app (goodIn_of _ (by decide +kernel)) ggX6_tell_X6_in
set_option maxRecDepth 20000 in
theorem ggX6_tell_X6_fails : GoodIn wsX6_tell wsX6_fails := goodIn_r _ [13, 1, 22, 23, 24, 25, 26, 27, 28, 29, 30, 31, 32, 33, 34, 35, 36, 37, 38, 39, 40] (by decide +kernel) (by decide +kernel)
set_option maxRecDepth 20000 in
theorem gX6_tell_X6_fails : GoodIn wsX6_tell (wsV RX6 143 RX6 yX6_fails wsX6_fails) := goodIn_app (goodIn_of _ (by decide +kernel)) ggX6_tell_X6_fails
set_option maxRecDepth 20000 in
theorem ggX6_tell_X6_countMoves : GoodIn wsX6_tell wsX6_countMoves := goodIn_r _ [17, 18, 5, 19, 20, 8, 21, 22, 23, 24, 25, 26, 27, 28, 29, 30, 31, 32, 33, 34, 35, 36, 37, 38, 39, 40] (by decide +kernel) (by decide +kernel)
set_option maxRecDepth 20000 in
theorem gX6_tell_X6_countMoves : GoodIn wsX6_tell (wsV RX6 147 RX6 yX6_countMoves wsX6_countMoves) := goodIn_app (goodIn_of _ (by decide +kernel)) ggX6_tell_X6_countMoves
theorem dX6_tell_0 : decode cX6_tell 0 = .ok (.aload_n 0, 1) := by decide +kernel
theorem dX6_tell_1 : decode cX6_tell 1 = .ok (.iconst 0, 1) := by decide +kernel
theorem dX6_tell_2 : decode cX6_tell 2 = .ok (.putfield 64, 3) := by decide +kernel
theorem dX6_tell_5 : decode cX6_tell 5 = .ok (.iload_n 1, 1) := by decide +kernel
theorem dX6_tell_6 : decode cX6_tell 6 = .ok (.iconst 0, 1) := by decide +kernel
theorem dX6_tell_7 : decode cX6_tell 7 = .ok (.iconst 4, 1) := by decide +kernel
theorem dX6_tell_8 : decode cX6_tell 8 = .ok (.invokestatic 67, 3) := by decide +kernel
theorem dX6_tell_11 : decode cX6_tell 11 = .ok (.ifCond .ne 9, 3) := by decide +kernel
theorem dX6_tell_14 : decode cX6_tell 14 = .ok (.aload_n 0, 1) := by decide +kernel
theorem dX6_tell_15 : decode cX6_tell 15 = .ok (.iconst 1, 1) := by decide +kernel
theorem dX6_tell_16 : decode cX6_tell 16 = .ok (.invokevirtual 143, 3) := by decide +kernel
theorem dX6_tell_19 : decode cX6_tell 19 = .ok (.ireturn, 1) := by decide +kernel
theorem dX6_tell_20 : decode cX6_tell 20 = .ok (.aload_n 0, 1) := by decide +kernel
theorem dX6_tell_21 : decode cX6_tell 21 = .ok (.getfield 13, 3) := by decide +kernel
theorem dX6_tell_24 : decode cX6_tell 24 = .ok (.iconst (-1), 1) := by decide +kernel
theorem dX6_tell_25 : decode cX6_tell 25 = .ok (.if_icmp .ne 11, 3) := by decide +kernel
theorem dX6_tell_28 : decode cX6_tell 28 = .ok (.aload_n 0, 1) := by decide +kernel
theorem dX6_tell_29 : decode cX6_tell 29 = .ok (.getfield 9, 3) := by decide +kernel
theorem dX6_tell_32 : decode cX6_tell 32 = .ok (.iconst (-1), 1) := by decide +kernel
theorem dX6_tell_33 : decode cX6_tell 33 = .ok (.if_icmp .eq 9, 3) := by decide +kernel
theorem dX6_tell_36 : decode cX6_tell 36 = .ok (.aload_n 0, 1) := by decide +kernel
theorem dX6_tell_37 : decode cX6_tell 37 = .ok (.iconst 2, 1) := by decide +kernel
theorem dX6_tell_38 : decode cX6_tell 38 = .ok (.invokevirtual 143, 3) := by decide +kernel
theorem dX6_tell_41 : decode cX6_tell 41 = .ok (.ireturn, 1) := by decide +kernel
theorem dX6_tell_42 : decode cX6_tell 42 = .ok (.aload_n 0, 1) := by decide +kernel
theorem dX6_tell_43 : decode cX6_tell 43 = .ok (.dup, 1) := by decide +kernel
theorem dX6_tell_44 : decode cX6_tell 44 = .ok (.getfield 140, 3) := by decide +kernel
theorem dX6_tell_47 : decode cX6_tell 47 = .ok (.iconst 1, 1) := by decide +kernel
theorem dX6_tell_48 : decode cX6_tell 48 = .ok (.iadd, 1) := by decide +kernel
theorem dX6_tell_49 : decode cX6_tell 49 = .ok (.putfield 140, 3) := by decide +kernel
theorem dX6_tell_52 : decode cX6_tell 52 = .ok (.aload_n 0, 1) := by decide +kernel
theorem dX6_tell_53 : decode cX6_tell 53 = .ok (.iload_n 1, 1) := by decide +kernel
theorem dX6_tell_54 : decode cX6_tell 54 = .ok (.invokevirtual 147, 3) := by decide +kernel
theorem dX6_tell_57 : decode cX6_tell 57 = .ok (.istore_n 2, 1) := by decide +kernel
theorem dX6_tell_58 : decode cX6_tell 58 = .ok (.aload_n 0, 1) := by decide +kernel
theorem dX6_tell_59 : decode cX6_tell 59 = .ok (.iload_n 2, 1) := by decide +kernel
theorem dX6_tell_60 : decode cX6_tell 60 = .ok (.ifCond .le 7, 3) := by decide +kernel
theorem dX6_tell_63 : decode cX6_tell 63 = .ok (.iload_n 1, 1) := by decide +kernel
theorem dX6_tell_64 : decode cX6_tell 64 = .ok (.goto 4, 3) := by decide +kernel
theorem dX6_tell_67 : decode cX6_tell 67 = .ok (.iconst (-1), 1) := by decide +kernel
theorem dX6_tell_68 : decode cX6_tell 68 = .ok (.putfield 9, 3) := by decide +kernel
theorem dX6_tell_71 : decode cX6_tell 71 = .ok (.aload_n 0, 1) := by decide +kernel
theorem dX6_tell_72 : decode cX6_tell 72 = .ok (.iload_n 2, 1) := by decide +kernel
theorem dX6_tell_73 : decode cX6_tell 73 = .ok (.ifCond .le 10, 3) := by decide +kernel
theorem dX6_tell_76 : decode cX6_tell 76 = .ok (.aload_n 0, 1) := by decide +kernel
theorem dX6_tell_77 : decode cX6_tell 77 = .ok (.getfield 128, 3) := by decide +kernel
theorem dX6_tell_80 : decode cX6_tell 80 = .ok (.goto 9, 3) := by decide +kernel
theorem dX6_tell_83 : decode cX6_tell 83 = .ok (.iconst 1, 1) := by decide +kernel
theorem dX6_tell_84 : decode cX6_tell 84 = .ok (.aload_n 0, 1) := by decide +kernel
theorem dX6_tell_85 : decode cX6_tell 85 = .ok (.getfield 128, 3) := by decide +kernel
theorem dX6_tell_88 : decode cX6_tell 88 = .ok (.isub, 1) := by decide +kernel
theorem dX6_tell_89 : decode cX6_tell 89 = .ok (.putfield 128, 3) := by decide +kernel
theorem dX6_tell_92 : decode cX6_tell 92 = .ok (.iload_n 2, 1) := by decide +kernel
theorem dX6_tell_93 : decode cX6_tell 93 = .ok (.ireturn, 1) := by decide +kernel
set_option maxRecDepth 20000 in
theorem ggX6_move_X6_in : GoodIn wsX6_move wsX6_in := goodIn_r _ [11] (by decide +kernel) (by decide +kernel)
set_option maxRecDepth 20000 in
theorem gX6_move_X6_in : GoodIn wsX6_move (va_wsS RX6 67 yX6_in wsX6_in) := goodIn_app (goodIn_of _ (by decide +kernel)) ggX6_move_X6_in
set_option maxRecDepth 20000 in
theorem ggX6_move_X6_fails : GoodIn wsX6_move wsX6_fails := goodIn_r _ [15, 1, 28, 29, 30, 31, 32, 33, 34, 35, 36, 37, 38, 39, 40, 41, 42, 43, 44, 45, 46] (by decide +kernel) (by decide +kernel)
set_option maxRecDepth 20000 in
theorem gX6_move_X6_fails : GoodIn wsX6_move (wsV RX6 143 RX6 yX6_fails wsX6_fails) := goodIn_app (goodIn_of _ (by decide +kernel)) ggX6_move_X6_fails
set_option maxRecDepth 20000 in
theorem ggX6_move_X6_canMove : GoodIn wsX6_move wsX6_canMove := goodIn_r _ [18] (by decide +kernel) (by decide +kernel)
set_option maxRecDepth 20000 in
theorem gX6_move_X6_canMove : GoodIn wsX6_move (va_wsS RX6 102 yX6_canMove wsX6_canMove) := goodIn_app (goodIn_of _ (by decide +kernel)) ggX6_move_X6_canMove
set_option maxRecDepth 20000 in
theorem ggX6_move_X6_shifts : GoodIn wsX6_move wsX6_shifts := goodIn_r _ [21, 22, 23, 10, 24, 8, 9, 11] (by decide +kernel) (by decide +kernel)
set_option maxRecDepth 20000 in
theorem gX6_move_X6_shifts : GoodIn wsX6_move (va_wsS RX6 109 yX6_shifts wsX6_shifts) := goodIn_app (goodIn_of _ (by decide +kernel)) ggX6_move_X6_shifts
set_option maxRecDepth 20000 in
theorem ggX6_move_X6_isRosette : GoodIn wsX6_move wsX6_isRosette := goodIn_r _ [27] (by decide +kernel) (by decide +kernel)
set_option maxRecDepth 20000 in
theorem gX6_move_X6_isRosette : GoodIn wsX6_move (va_wsS RX6 76 yX6_isRosette wsX6_isRosette) := goodIn_app (goodIn_of _ (by decide +kernel)) ggX6_move_X6_isRosette
theorem dX6_move_0 : decode cX6_move 0 = .ok (.aload_n 0, 1) := by decide +kernel
theorem dX6_move_1 : decode cX6_move 1 = .ok (.iconst 0, 1) := by decide +kernel
theorem dX6_move_2 : decode cX6_move 2 = .ok (.putfield 64, 3) := by decide +kernel
theorem dX6_move_5 : decode cX6_move 5 = .ok (.iload_n 1, 1) := by decide +kernel
theorem dX6_move_6 : decode cX6_move 6 = .ok (.iconst 0, 1) := by decide +kernel
theorem dX6_move_7 : decode cX6_move 7 = .ok (.bipush 14, 2) := by decide +kernel
theorem dX6_move_9 : decode cX6_move 9 = .ok (.invokestatic 67, 3) := by decide +kernel
theorem dX6_move_12 : decode cX6_move 12 = .ok (.ifCond .ne 9, 3) := by decide +kernel
theorem dX6_move_15 : decode cX6_move 15 = .ok (.aload_n 0, 1) := by decide +kernel
theorem dX6_move_16 : decode cX6_move 16 = .ok (.iconst 1, 1) := by decide +kernel
theorem dX6_move_17 : decode cX6_move 17 = .ok (.invokevirtual 143, 3) := by decide +kernel
theorem dX6_move_20 : decode cX6_move 20 = .ok (.ireturn, 1) := by decide +kernel
theorem dX6_move_21 : decode cX6_move 21 = .ok (.aload_n 0, 1) := by decide +kernel
theorem dX6_move_22 : decode cX6_move 22 = .ok (.getfield 9, 3) := by decide +kernel
theorem dX6_move_25 : decode cX6_move 25 = .ok (.iconst (-1), 1) := by decide +kernel
theorem dX6_move_26 : decode cX6_move 26 = .ok (.if_icmp .eq 23, 3) := by decide +kernel
theorem dX6_move_29 : decode cX6_move 29 = .ok (.aload_n 0, 1) := by decide +kernel
theorem dX6_move_30 : decode cX6_move 30 = .ok (.getfield 20, 3) := by decide +kernel
theorem dX6_move_33 : decode cX6_move 33 = .ok (.iconst 0, 1) := by decide +kernel
theorem dX6_move_34 : decode cX6_move 34 = .ok (.aload_n 0, 1) := by decide +kernel
theorem dX6_move_35 : decode cX6_move 35 = .ok (.getfield 128, 3) := by decide +kernel
theorem dX6_move_38 : decode cX6_move 38 = .ok (.iload_n 1, 1) := by decide +kernel
theorem dX6_move_39 : decode cX6_move 39 = .ok (.aload_n 0, 1) := by decide +kernel
theorem dX6_move_40 : decode cX6_move 40 = .ok (.getfield 9, 3) := by decide +kernel
theorem dX6_move_43 : decode cX6_move 43 = .ok (.invokestatic 102, 3) := by decide +kernel
theorem dX6_move_46 : decode cX6_move 46 = .ok (.ifCond .ne 9, 3) := by decide +kernel
theorem dX6_move_49 : decode cX6_move 49 = .ok (.aload_n 0, 1) := by decide +kernel
theorem dX6_move_50 : decode cX6_move 50 = .ok (.iconst 2, 1) := by decide +kernel
theorem dX6_move_51 : decode cX6_move 51 = .ok (.invokevirtual 143, 3) := by decide +kernel
theorem dX6_move_54 : decode cX6_move 54 = .ok (.ireturn, 1) := by decide +kernel
theorem dX6_move_55 : decode cX6_move 55 = .ok (.aload_n 0, 1) := by decide +kernel
theorem dX6_move_56 : decode cX6_move 56 = .ok (.getfield 16, 3) := by decide +kernel
theorem dX6_move_59 : decode cX6_move 59 = .ok (.iconst 1, 1) := by decide +kernel
theorem dX6_move_60 : decode cX6_move 60 = .ok (.aload_n 0, 1) := by decide +kernel
theorem dX6_move_61 : decode cX6_move 61 = .ok (.getfield 128, 3) := by decide +kernel
theorem dX6_move_64 : decode cX6_move 64 = .ok (.isub, 1) := by decide +kernel
theorem dX6_move_65 : decode cX6_move 65 = .ok (.dup2, 1) := by decide +kernel
theorem dX6_move_66 : decode cX6_move 66 = .ok (.iaload, 1) := by decide +kernel
theorem dX6_move_67 : decode cX6_move 67 = .ok (.aload_n 0, 1) := by decide +kernel
theorem dX6_move_68 : decode cX6_move 68 = .ok (.getfield 20, 3) := by decide +kernel
theorem dX6_move_71 : decode cX6_move 71 = .ok (.iconst 0, 1) := by decide +kernel
theorem dX6_move_72 : decode cX6_move 72 = .ok (.aload_n 0, 1) := by decide +kernel
theorem dX6_move_73 : decode cX6_move 73 = .ok (.getfield 128, 3) := by decide +kernel
theorem dX6_move_76 : decode cX6_move 76 = .ok (.iload_n 1, 1) := by decide +kernel
theorem dX6_move_77 : decode cX6_move 77 = .ok (.aload_n 0, 1) := by decide +kernel
theorem dX6_move_78 : decode cX6_move 78 = .ok (.getfield 9, 3) := by decide +kernel
theorem dX6_move_81 : decode cX6_move 81 = .ok (.invokestatic 109, 3) := by decide +kernel
theorem dX6_move_84 : decode cX6_move 84 = .ok (.iadd, 1) := by decide +kernel
theorem dX6_move_85 : decode cX6_move 85 = .ok (.iastore, 1) := by decide +kernel
theorem dX6_move_86 : decode cX6_move 86 = .ok (.iload_n 1, 1) := by decide +kernel
theorem dX6_move_87 : decode cX6_move 87 = .ok (.aload_n 0, 1) := by decide +kernel
theorem dX6_move_88 : decode cX6_move 88 = .ok (.getfield 9, 3) := by decide +kernel
theorem dX6_move_91 : decode cX6_move 91 = .ok (.iadd, 1) := by decide +kernel
theorem dX6_move_92 : decode cX6_move 92 = .ok (.istore_n 2, 1) := by decide +kernel
theorem dX6_move_93 : decode cX6_move 93 = .ok (.aload_n 0, 1) := by decide +kernel
theorem dX6_move_94 : decode cX6_move 94 = .ok (.iconst (-1), 1) := by decide +kernel
theorem dX6_move_95 : decode cX6_move 95 = .ok (.putfield 9, 3) := by decide +kernel
theorem dX6_move_98 : decode cX6_move 98 = .ok (.aload_n 0, 1) := by decide +kernel
theorem dX6_move_99 : decode cX6_move 99 = .ok (.aload_n 0, 1) := by decide +kernel
theorem dX6_move_100 : decode cX6_move 100 = .ok (.getfield 20, 3) := by decide +kernel
theorem dX6_move_103 : decode cX6_move 103 = .ok (.bipush 16, 2) := by decide +kernel
theorem dX6_move_105 : decode cX6_move 105 = .ok (.aload_n 0, 1) := by decide +kernel
theorem dX6_move_106 : decode cX6_move 106 = .ok (.getfield 128, 3) := by decide +kernel
theorem dX6_move_109 : decode cX6_move 109 = .ok (.imul, 1) := by decide +kernel
theorem dX6_move_110 : decode cX6_move 110 = .ok (.bipush 15, 2) := by decide +kernel
theorem dX6_move_112 : decode cX6_move 112 = .ok (.iadd, 1) := by decide +kernel
theorem dX6_move_113 : decode cX6_move 113 = .ok (.iaload, 1) := by decide +kernel
theorem dX6_move_114 : decode cX6_move 114 = .ok (.aload_n 0, 1) := by decide +kernel
theorem dX6_move_115 : decode cX6_move 115 = .ok (.getfield 90, 3) := by decide +kernel
theorem dX6_move_118 : decode cX6_move 118 = .ok (.if_icmp .ne 10, 3) := by decide +kernel
theorem dX6_move_121 : decode cX6_move 121 = .ok (.aload_n 0, 1) := by decide +kernel
theorem dX6_move_122 : decode cX6_move 122 = .ok (.getfield 128, 3) := by decide +kernel
theorem dX6_move_125 : decode cX6_move 125 = .ok (.goto 4, 3) := by decide +kernel
theorem dX6_move_128 : decode cX6_move 128 = .ok (.iconst (-1), 1) := by decide +kernel
theorem dX6_move_129 : decode cX6_move 129 = .ok (.putfield 13, 3) := by decide +kernel
theorem dX6_move_132 : decode cX6_move 132 = .ok (.aload_n 0, 1) := by decide +kernel
theorem dX6_move_133 : decode cX6_move 133 = .ok (.iload_n 2, 1) := by decide +kernel
theorem dX6_move_134 : decode cX6_move 134 = .ok (.invokestatic 76, 3) := by decide +kernel
theorem dX6_move_137 : decode cX6_move 137 = .ok (.ifCond .eq 10, 3) := by decide +kernel
theorem dX6_move_140 : decode cX6_move 140 = .ok (.aload_n 0, 1) := by decide +kernel
theorem dX6_move_141 : decode cX6_move 141 = .ok (.getfield 128, 3) := by decide +kernel
theorem dX6_move_144 : decode cX6_move 144 = .ok (.goto 9, 3) := by decide +kernel
theorem dX6_move_147 : decode cX6_move 147 = .ok (.iconst 1, 1) := by decide +kernel
theorem dX6_move_148 : decode cX6_move 148 = .ok (.aload_n 0, 1) := by decide +kernel
theorem dX6_move_149 : decode cX6_move 149 = .ok (.getfield 128, 3) := by decide +kernel
theorem dX6_move_152 : decode cX6_move 152 = .ok (.isub, 1) := by decide +kernel
theorem dX6_move_153 : decode cX6_move 153 = .ok (.putfield 128, 3) := by decide +kernel
theorem dX6_move_156 : decode cX6_move 156 = .ok (.iload_n 2, 1) := by decide +kernel
theorem dX6_move_157 : decode cX6_move 157 = .ok (.ireturn, 1) := by decide +kernel
theorem dX6_turn_0 : decode cX6_turn 0 = .ok (.aload_n 0, 1) := by decide +kernel
theorem dX6_turn_1 : decode cX6_turn 1 = .ok (.iconst 0, 1) := by decide +kernel
theorem dX6_turn_2 : decode cX6_turn 2 = .ok (.putfield 64, 3) := by decide +kernel
theorem dX6_turn_5 : decode cX6_turn 5 = .ok (.aload_n 0, 1) := by decide +kernel
theorem dX6_turn_6 : decode cX6_turn 6 = .ok (.getfield 128, 3) := by decide +kernel
theorem dX6_turn_9 : decode cX6_turn 9 = .ok (.ireturn, 1) := by decide +kernel
theorem dX6_marks_0 : decode cX6_marks 0 = .ok (.aload_n 0, 1) := by decide +kernel
theorem dX6_marks_1 : decode cX6_marks 1 = .ok (.iconst 0, 1) := by decide +kernel
theorem dX6_marks_2 : decode cX6_marks 2 = .ok (.putfield 64, 3) := by decide +kernel
theorem dX6_marks_5 : decode cX6_marks 5 = .ok (.aload_n 0, 1) := by decide +kernel
theorem dX6_marks_6 : decode cX6_marks 6 = .ok (.getfield 9, 3) := by decide +kernel
theorem dX6_marks_9 : decode cX6_marks 9 = .ok (.ireturn, 1) := by decide +kernel
theorem dX6_winner_0 : decode cX6_winner 0 = .ok (.aload_n 0, 1) := by decide +kernel
theorem dX6_winner_1 : decode cX6_winner 1 = .ok (.iconst 0, 1) := by decide +kernel
theorem dX6_winner_2 : decode cX6_winner 2 = .ok (.putfield 64, 3) := by decide +kernel
theorem dX6_winner_5 : decode cX6_winner 5 = .ok (.aload_n 0, 1) := by decide +kernel
theorem dX6_winner_6 : decode cX6_winner 6 = .ok (.getfield 13, 3) := by decide +kernel
theorem dX6_winner_9 : decode cX6_winner 9 = .ok (.ireturn, 1) := by decide +kernel
set_option maxRecDepth 20000 in
theorem ggX6_at_X6_in : GoodIn wsX6_at wsX6_in := goodIn_r _ [6] (by decide +kernel) (by decide +kernel)
set_option maxRecDepth 20000 in
theorem gX6_at_X6_in : GoodIn wsX6_at (va_wsS RX6 67 yX6_in wsX6_in) := goodIn_app (goodIn_of _ (by decide +kernel)) ggX6_at_X6_in
set_option maxRecDepth 20000 in
theorem ggX6_at_X6_fails : GoodIn wsX6_at wsX6_fails := goodIn_r _ [10, 1, 11, 12, 13, 14, 15, 16, 17, 18, 19, 20, 21, 22, 23, 24, 25, 26, 27, 28, 29] (by decide +kernel) (by decide +kernel)
set_option maxRecDepth 20000 in
theorem gX6_at_X6_fails : GoodIn wsX6_at (wsV RX6 143 RX6 yX6_fails wsX6_fails) := goodIn_app (goodIn_of _ (by decide +kernel)) ggX6_at_X6_fails
theorem dX6_at_0 : decode cX6_at 0 = .ok (.aload_n 0, 1) := by decide +kernel
theorem dX6_at_1 : decode cX6_at 1 = .ok (.iconst 0, 1) := by decide +kernel
theorem dX6_at_2 : decode cX6_at 2 = .ok (.putfield 64, 3) := by decide +kernel
theorem dX6_at_5 : decode cX6_at 5 = .ok (.iload_n 1, 1) := by decide +kernel
theorem dX6_at_6 : decode cX6_at 6 = .ok (.iconst 0, 1) := by decide +kernel
theorem dX6_at_7 : decode cX6_at 7 = .ok (.iconst 1, 1) := by decide +kernel
theorem dX6_at_8 : decode cX6_at 8 = .ok (.invokestatic 67, 3) := by decide +kernel
theorem dX6_at_11 : decode cX6_at 11 = .ok (.ifCond .eq 27, 3) := by decide +kernel
theorem dX6_at_14 : decode cX6_at 14 = .ok (.iload_n 2, 1) := by decide +kernel
theorem dX6_at_15 : decode cX6_at 15 = .ok (.iconst 0, 1) := by decide +kernel
theorem dX6_at_16 : decode cX6_at 16 = .ok (.bipush 15, 2) := by decide +kernel
theorem dX6_at_18 : decode cX6_at 18 = .ok (.invokestatic 67, 3) := by decide +kernel
theorem dX6_at_21 : decode cX6_at 21 = .ok (.ifCond .eq 17, 3) := by decide +kernel
theorem dX6_at_24 : decode cX6_at 24 = .ok (.aload_n 0, 1) := by decide +kernel
theorem dX6_at_25 : decode cX6_at 25 = .ok (.getfield 20, 3) := by decide +kernel
theorem dX6_at_28 : decode cX6_at 28 = .ok (.bipush 16, 2) := by decide +kernel
theorem dX6_at_30 : decode cX6_at 30 = .ok (.iload_n 1, 1) := by decide +kernel
theorem dX6_at_31 : decode cX6_at 31 = .ok (.imul, 1) := by decide +kernel
theorem dX6_at_32 : decode cX6_at 32 = .ok (.iload_n 2, 1) := by decide +kernel
theorem dX6_at_33 : decode cX6_at 33 = .ok (.iadd, 1) := by decide +kernel
theorem dX6_at_34 : decode cX6_at 34 = .ok (.iaload, 1) := by decide +kernel
theorem dX6_at_35 : decode cX6_at 35 = .ok (.goto 8, 3) := by decide +kernel
theorem dX6_at_38 : decode cX6_at 38 = .ok (.aload_n 0, 1) := by decide +kernel
theorem dX6_at_39 : decode cX6_at 39 = .ok (.iconst 1, 1) := by decide +kernel
theorem dX6_at_40 : decode cX6_at 40 = .ok (.invokevirtual 143, 3) := by decide +kernel
theorem dX6_at_43 : decode cX6_at 43 = .ok (.ireturn, 1) := by decide +kernel
set_option maxRecDepth 20000 in
theorem ggX6_progress_X6_in : GoodIn wsX6_progress wsX6_in := goodIn_r _ [6] (by decide +kernel) (by decide +kernel)
set_option maxRecDepth 20000 in
theorem gX6_progress_X6_in : GoodIn wsX6_progress (va_wsS RX6 67 yX6_in wsX6_in) := goodIn_app (goodIn_of _ (by decide +kernel)) ggX6_progress_X6_in
set_option maxRecDepth 20000 in
theorem ggX6_progress_X6_progressOf : GoodIn wsX6_progress wsX6_progressOf := goodIn_r _ [10] (by decide +kernel) (by decide +kernel)
set_option maxRecDepth 20000 in
theorem gX6_progress_X6_progressOf : GoodIn wsX6_progress (wsV RX6 98 RX6 yX6_progressOf wsX6_progressOf) := goodIn_app (goodIn_of _ (by decide +kernel)) ggX6_progress_X6_progressOf
set_option maxRecDepth 20000 in
theorem ggX6_progress_X6_fails : GoodIn wsX6_progress wsX6_fails := goodIn_r _ [14, 1, 15, 16, 17, 18, 19, 20, 21, 22, 23, 24, 25, 26, 27, 28, 29, 30, 31, 32, 33] (by decide +kernel) (by decide +kernel)
set_option maxRecDepth 20000 in
theorem gX6_progress_X6_fails : GoodIn wsX6_progress (wsV RX6 143 RX6 yX6_fails wsX6_fails) := goodIn_app (goodIn_of _ (by decide +kernel)) ggX6_progress_X6_fails
theorem dX6_progress_0 : decode cX6_progress 0 = .ok (.aload_n 0, 1) := by decide +kernel
theorem dX6_progress_1 : decode cX6_progress 1 = .ok (.iconst 0, 1) := by decide +kernel
theorem dX6_progress_2 : decode cX6_progress 2 = .ok (.putfield 64, 3) := by decide +kernel
theorem dX6_progress_5 : decode cX6_progress 5 = .ok (.iload_n 1, 1) := by decide +kernel
theorem dX6_progress_6 : decode cX6_progress 6 = .ok (.iconst 0, 1) := by decide +kernel
theorem dX6_progress_7 : decode cX6_progress 7 = .ok (.iconst 1, 1) := by decide +kernel
theorem dX6_progress_8 : decode cX6_progress 8 = .ok (.invokestatic 67, 3) := by decide +kernel
theorem dX6_progress_11 : decode cX6_progress 11 = .ok (.ifCond .eq 16, 3) := by decide +kernel
theorem dX6_progress_14 : decode cX6_progress 14 = .ok (.aload_n 0, 1) := by decide +kernel
theorem dX6_progress_15 : decode cX6_progress 15 = .ok (.aload_n 0, 1) := by decide +kernel
theorem dX6_progress_16 : decode cX6_progress 16 = .ok (.getfield 20, 3) := by decide +kernel
theorem dX6_progress_19 : decode cX6_progress 19 = .ok (.iconst 0, 1) := by decide +kernel
theorem dX6_progress_20 : decode cX6_progress 20 = .ok (.iload_n 1, 1) := by decide +kernel
theorem dX6_progress_21 : decode cX6_progress 21 = .ok (.invokevirtual 98, 3) := by decide +kernel
theorem dX6_progress_24 : decode cX6_progress 24 = .ok (.goto 8, 3) := by decide +kernel
theorem dX6_progress_27 : decode cX6_progress 27 = .ok (.aload_n 0, 1) := by decide +kernel
theorem dX6_progress_28 : decode cX6_progress 28 = .ok (.iconst 1, 1) := by decide +kernel
theorem dX6_progress_29 : decode cX6_progress 29 = .ok (.invokevirtual 143, 3) := by decide +kernel
theorem dX6_progress_32 : decode cX6_progress 32 = .ok (.ireturn, 1) := by decide +kernel
set_option maxRecDepth 20000 in
theorem ggX6_captured_X6_in : GoodIn wsX6_captured wsX6_in := goodIn_r _ [6] (by decide +kernel) (by decide +kernel)
set_option maxRecDepth 20000 in
theorem gX6_captured_X6_in : GoodIn wsX6_captured (va_wsS RX6 67 yX6_in wsX6_in) := goodIn_app (goodIn_of _ (by decide +kernel)) ggX6_captured_X6_in
set_option maxRecDepth 20000 in
theorem ggX6_captured_X6_fails : GoodIn wsX6_captured wsX6_fails := goodIn_r _ [10, 1, 11, 12, 13, 14, 15, 16, 17, 18, 19, 20, 21, 22, 23, 24, 25, 26, 27, 28, 29] (by decide +kernel) (by decide +kernel)
set_option maxRecDepth 20000 in
theorem gX6_captured_X6_fails : GoodIn wsX6_captured (wsV RX6 143 RX6 yX6_fails wsX6_fails) := goodIn_app (goodIn_of _ (by decide +kernel)) ggX6_captured_X6_fails
theorem dX6_captured_0 : decode cX6_captured 0 = .ok (.aload_n 0, 1) := by decide +kernel
theorem dX6_captured_1 : decode cX6_captured 1 = .ok (.iconst 0, 1) := by decide +kernel
theorem dX6_captured_2 : decode cX6_captured 2 = .ok (.putfield 64, 3) := by decide +kernel
theorem dX6_captured_5 : decode cX6_captured 5 = .ok (.iload_n 1, 1) := by decide +kernel
theorem dX6_captured_6 : decode cX6_captured 6 = .ok (.iconst 0, 1) := by decide +kernel
theorem dX6_captured_7 : decode cX6_captured 7 = .ok (.iconst 1, 1) := by decide +kernel
theorem dX6_captured_8 : decode cX6_captured 8 = .ok (.invokestatic 67, 3) := by decide +kernel
theorem dX6_captured_11 : decode cX6_captured 11 = .ok (.ifCond .eq 12, 3) := by decide +kernel
theorem dX6_captured_14 : decode cX6_captured 14 = .ok (.aload_n 0, 1) := by decide +kernel
theorem dX6_captured_15 : decode cX6_captured 15 = .ok (.getfield 16, 3) := by decide +kernel
theorem dX6_captured_18 : decode cX6_captured 18 = .ok (.iload_n 1, 1) := by decide +kernel
theorem dX6_captured_19 : decode cX6_captured 19 = .ok (.iaload, 1) := by decide +kernel
theorem dX6_captured_20 : decode cX6_captured 20 = .ok (.goto 8, 3) := by decide +kernel
theorem dX6_captured_23 : decode cX6_captured 23 = .ok (.aload_n 0, 1) := by decide +kernel
theorem dX6_captured_24 : decode cX6_captured 24 = .ok (.iconst 1, 1) := by decide +kernel
theorem dX6_captured_25 : decode cX6_captured 25 = .ok (.invokevirtual 143, 3) := by decide +kernel
theorem dX6_captured_28 : decode cX6_captured 28 = .ok (.ireturn, 1) := by decide +kernel
theorem dX6_throwsTold_0 : decode cX6_throwsTold 0 = .ok (.aload_n 0, 1) := by decide +kernel
theorem dX6_throwsTold_1 : decode cX6_throwsTold 1 = .ok (.iconst 0, 1) := by decide +kernel
theorem dX6_throwsTold_2 : decode cX6_throwsTold 2 = .ok (.putfield 64, 3) := by decide +kernel
theorem dX6_throwsTold_5 : decode cX6_throwsTold 5 = .ok (.aload_n 0, 1) := by decide +kernel
theorem dX6_throwsTold_6 : decode cX6_throwsTold 6 = .ok (.getfield 140, 3) := by decide +kernel
theorem dX6_throwsTold_9 : decode cX6_throwsTold 9 = .ok (.ireturn, 1) := by decide +kernel
set_option maxRecDepth 20000 in
theorem ggX6_moves_X6_countMoves : GoodIn wsX6_moves wsX6_countMoves := goodIn_r _ [7, 8, 9, 10, 11, 6, 12, 13, 14, 15, 16, 17, 18, 19, 20, 21, 22, 23, 24, 25, 26, 27, 28, 29, 30, 31] (by decide +kernel) (by decide +kernel)
set_option maxRecDepth 20000 in
theorem gX6_moves_X6_countMoves : GoodIn wsX6_moves (wsV RX6 147 RX6 yX6_countMoves wsX6_countMoves) := goodIn_app (goodIn_of _ (by decide +kernel)) ggX6_moves_X6_countMoves
theorem dX6_moves_0 : decode cX6_moves 0 = .ok (.aload_n 0, 1) := by decide +kernel
theorem dX6_moves_1 : decode cX6_moves 1 = .ok (.iconst 0, 1) := by decide +kernel
theorem dX6_moves_2 : decode cX6_moves 2 = .ok (.putfield 64, 3) := by decide +kernel
theorem dX6_moves_5 : decode cX6_moves 5 = .ok (.aload_n 0, 1) := by decide +kernel
theorem dX6_moves_6 : decode cX6_moves 6 = .ok (.getfield 9, 3) := by decide +kernel
theorem dX6_moves_9 : decode cX6_moves 9 = .ok (.iconst (-1), 1) := by decide +kernel
theorem dX6_moves_10 : decode cX6_moves 10 = .ok (.if_icmp .ne 7, 3) := by decide +kernel
theorem dX6_moves_13 : decode cX6_moves 13 = .ok (.iconst 0, 1) := by decide +kernel
theorem dX6_moves_14 : decode cX6_moves 14 = .ok (.goto 11, 3) := by decide +kernel
theorem dX6_moves_17 : decode cX6_moves 17 = .ok (.aload_n 0, 1) := by decide +kernel
theorem dX6_moves_18 : decode cX6_moves 18 = .ok (.aload_n 0, 1) := by decide +kernel
theorem dX6_moves_19 : decode cX6_moves 19 = .ok (.getfield 9, 3) := by decide +kernel
theorem dX6_moves_22 : decode cX6_moves 22 = .ok (.invokevirtual 147, 3) := by decide +kernel
theorem dX6_moves_25 : decode cX6_moves 25 = .ok (.ireturn, 1) := by decide +kernel
set_option maxRecDepth 20000 in
theorem ggX6_moveAt_X6_canMove : GoodIn wsX6_moveAt wsX6_canMove := goodIn_r _ [8] (by decide +kernel) (by decide +kernel)
set_option maxRecDepth 20000 in
theorem gX6_moveAt_X6_canMove : GoodIn wsX6_moveAt (va_wsS RX6 102 yX6_canMove wsX6_canMove) := goodIn_app (goodIn_of _ (by decide +kernel)) ggX6_moveAt_X6_canMove
theorem dX6_moveAt_0 : decode cX6_moveAt 0 = .ok (.aload_n 0, 1) := by decide +kernel
theorem dX6_moveAt_1 : decode cX6_moveAt 1 = .ok (.iconst 0, 1) := by decide +kernel
theorem dX6_moveAt_2 : decode cX6_moveAt 2 = .ok (.putfield 64, 3) := by decide +kernel
theorem dX6_moveAt_5 : decode cX6_moveAt 5 = .ok (.iload_n 1, 1) := by decide +kernel
theorem dX6_moveAt_6 : decode cX6_moveAt 6 = .ok (.istore_n 2, 1) := by decide +kernel
theorem dX6_moveAt_7 : decode cX6_moveAt 7 = .ok (.iconst (-1), 1) := by decide +kernel
theorem dX6_moveAt_8 : decode cX6_moveAt 8 = .ok (.istore_n 3, 1) := by decide +kernel
theorem dX6_moveAt_9 : decode cX6_moveAt 9 = .ok (.iconst 0, 1) := by decide +kernel
theorem dX6_moveAt_10 : decode cX6_moveAt 10 = .ok (.istore 4, 2) := by decide +kernel
theorem dX6_moveAt_12 : decode cX6_moveAt 12 = .ok (.iload 4, 2) := by decide +kernel
theorem dX6_moveAt_14 : decode cX6_moveAt 14 = .ok (.bipush 15, 2) := by decide +kernel
theorem dX6_moveAt_16 : decode cX6_moveAt 16 = .ok (.if_icmp .ge 52, 3) := by decide +kernel
theorem dX6_moveAt_19 : decode cX6_moveAt 19 = .ok (.aload_n 0, 1) := by decide +kernel
theorem dX6_moveAt_20 : decode cX6_moveAt 20 = .ok (.getfield 9, 3) := by decide +kernel
theorem dX6_moveAt_23 : decode cX6_moveAt 23 = .ok (.iconst (-1), 1) := by decide +kernel
theorem dX6_moveAt_24 : decode cX6_moveAt 24 = .ok (.if_icmp .eq 44, 3) := by decide +kernel
theorem dX6_moveAt_27 : decode cX6_moveAt 27 = .ok (.aload_n 0, 1) := by decide +kernel
theorem dX6_moveAt_28 : decode cX6_moveAt 28 = .ok (.getfield 20, 3) := by decide +kernel
theorem dX6_moveAt_31 : decode cX6_moveAt 31 = .ok (.iconst 0, 1) := by decide +kernel
theorem dX6_moveAt_32 : decode cX6_moveAt 32 = .ok (.aload_n 0, 1) := by decide +kernel
theorem dX6_moveAt_33 : decode cX6_moveAt 33 = .ok (.getfield 128, 3) := by decide +kernel
theorem dX6_moveAt_36 : decode cX6_moveAt 36 = .ok (.iload 4, 2) := by decide +kernel
theorem dX6_moveAt_38 : decode cX6_moveAt 38 = .ok (.aload_n 0, 1) := by decide +kernel
theorem dX6_moveAt_39 : decode cX6_moveAt 39 = .ok (.getfield 9, 3) := by decide +kernel
theorem dX6_moveAt_42 : decode cX6_moveAt 42 = .ok (.invokestatic 102, 3) := by decide +kernel
theorem dX6_moveAt_45 : decode cX6_moveAt 45 = .ok (.ifCond .eq 17, 3) := by decide +kernel
theorem dX6_moveAt_48 : decode cX6_moveAt 48 = .ok (.iload_n 2, 1) := by decide +kernel
theorem dX6_moveAt_49 : decode cX6_moveAt 49 = .ok (.ifCond .ne 8, 3) := by decide +kernel
theorem dX6_moveAt_52 : decode cX6_moveAt 52 = .ok (.iload 4, 2) := by decide +kernel
theorem dX6_moveAt_54 : decode cX6_moveAt 54 = .ok (.goto 4, 3) := by decide +kernel
theorem dX6_moveAt_57 : decode cX6_moveAt 57 = .ok (.iload_n 3, 1) := by decide +kernel
theorem dX6_moveAt_58 : decode cX6_moveAt 58 = .ok (.istore_n 3, 1) := by decide +kernel
theorem dX6_moveAt_59 : decode cX6_moveAt 59 = .ok (.iinc 2 (-1), 3) := by decide +kernel
theorem dX6_moveAt_62 : decode cX6_moveAt 62 = .ok (.iinc 4 1, 3) := by decide +kernel
theorem dX6_moveAt_65 : decode cX6_moveAt 65 = .ok (.goto (-53), 3) := by decide +kernel
theorem dX6_moveAt_68 : decode cX6_moveAt 68 = .ok (.iload_n 1, 1) := by decide +kernel
theorem dX6_moveAt_69 : decode cX6_moveAt 69 = .ok (.ifCond .ge 7, 3) := by decide +kernel
theorem dX6_moveAt_72 : decode cX6_moveAt 72 = .ok (.iconst (-1), 1) := by decide +kernel
theorem dX6_moveAt_73 : decode cX6_moveAt 73 = .ok (.goto 4, 3) := by decide +kernel
theorem dX6_moveAt_76 : decode cX6_moveAt 76 = .ok (.iload_n 3, 1) := by decide +kernel
theorem dX6_moveAt_77 : decode cX6_moveAt 77 = .ok (.ireturn, 1) := by decide +kernel
set_option maxRecDepth 20000 in
theorem ggX6_captures_X6_in : GoodIn wsX6_captures wsX6_in := goodIn_r _ [8] (by decide +kernel) (by decide +kernel)
set_option maxRecDepth 20000 in
theorem gX6_captures_X6_in : GoodIn wsX6_captures (va_wsS RX6 67 yX6_in wsX6_in) := goodIn_app (goodIn_of _ (by decide +kernel)) ggX6_captures_X6_in
set_option maxRecDepth 20000 in
theorem ggX6_captures_X6_canMove : GoodIn wsX6_captures wsX6_canMove := goodIn_r _ [11] (by decide +kernel) (by decide +kernel)
set_option maxRecDepth 20000 in
theorem gX6_captures_X6_canMove : GoodIn wsX6_captures (va_wsS RX6 102 yX6_canMove wsX6_canMove) := goodIn_app (goodIn_of _ (by decide +kernel)) ggX6_captures_X6_canMove
set_option maxRecDepth 20000 in
theorem ggX6_captures_X6_isShared : GoodIn wsX6_captures wsX6_isShared := goodIn_r _ [14, 5, 6, 7, 8] (by decide +kernel) (by decide +kernel)
set_option maxRecDepth 20000 in
theorem gX6_captures_X6_isShared : GoodIn wsX6_captures (va_wsS RX6 72 yX6_isShared wsX6_isShared) := goodIn_app (goodIn_of _ (by decide +kernel)) ggX6_captures_X6_isShared
theorem dX6_captures_0 : decode cX6_captures 0 = .ok (.aload_n 0, 1) := by decide +kernel
theorem dX6_captures_1 : decode cX6_captures 1 = .ok (.iload_n 1, 1) := by decide +kernel
theorem dX6_captures_2 : decode cX6_captures 2 = .ok (.iconst 0, 1) := by decide +kernel
theorem dX6_captures_3 : decode cX6_captures 3 = .ok (.bipush 14, 2) := by decide +kernel
theorem dX6_captures_5 : decode cX6_captures 5 = .ok (.invokestatic 67, 3) := by decide +kernel
theorem dX6_captures_8 : decode cX6_captures 8 = .ok (.ifCond .eq 7, 3) := by decide +kernel
theorem dX6_captures_11 : decode cX6_captures 11 = .ok (.iconst 0, 1) := by decide +kernel
theorem dX6_captures_12 : decode cX6_captures 12 = .ok (.goto 4, 3) := by decide +kernel
theorem dX6_captures_15 : decode cX6_captures 15 = .ok (.iconst 1, 1) := by decide +kernel
theorem dX6_captures_16 : decode cX6_captures 16 = .ok (.putfield 64, 3) := by decide +kernel
theorem dX6_captures_19 : decode cX6_captures 19 = .ok (.aload_n 0, 1) := by decide +kernel
theorem dX6_captures_20 : decode cX6_captures 20 = .ok (.getfield 64, 3) := by decide +kernel
theorem dX6_captures_23 : decode cX6_captures 23 = .ok (.ifCond .ne 72, 3) := by decide +kernel
theorem dX6_captures_26 : decode cX6_captures 26 = .ok (.aload_n 0, 1) := by decide +kernel
theorem dX6_captures_27 : decode cX6_captures 27 = .ok (.getfield 9, 3) := by decide +kernel
theorem dX6_captures_30 : decode cX6_captures 30 = .ok (.iconst (-1), 1) := by decide +kernel
theorem dX6_captures_31 : decode cX6_captures 31 = .ok (.if_icmp .eq 64, 3) := by decide +kernel
theorem dX6_captures_34 : decode cX6_captures 34 = .ok (.aload_n 0, 1) := by decide +kernel
theorem dX6_captures_35 : decode cX6_captures 35 = .ok (.getfield 20, 3) := by decide +kernel
theorem dX6_captures_38 : decode cX6_captures 38 = .ok (.iconst 0, 1) := by decide +kernel
theorem dX6_captures_39 : decode cX6_captures 39 = .ok (.aload_n 0, 1) := by decide +kernel
theorem dX6_captures_40 : decode cX6_captures 40 = .ok (.getfield 128, 3) := by decide +kernel
theorem dX6_captures_43 : decode cX6_captures 43 = .ok (.iload_n 1, 1) := by decide +kernel
theorem dX6_captures_44 : decode cX6_captures 44 = .ok (.aload_n 0, 1) := by decide +kernel
theorem dX6_captures_45 : decode cX6_captures 45 = .ok (.getfield 9, 3) := by decide +kernel
theorem dX6_captures_48 : decode cX6_captures 48 = .ok (.invokestatic 102, 3) := by decide +kernel
theorem dX6_captures_51 : decode cX6_captures 51 = .ok (.ifCond .eq 44, 3) := by decide +kernel
theorem dX6_captures_54 : decode cX6_captures 54 = .ok (.iload_n 1, 1) := by decide +kernel
theorem dX6_captures_55 : decode cX6_captures 55 = .ok (.aload_n 0, 1) := by decide +kernel
theorem dX6_captures_56 : decode cX6_captures 56 = .ok (.getfield 9, 3) := by decide +kernel
theorem dX6_captures_59 : decode cX6_captures 59 = .ok (.iadd, 1) := by decide +kernel
theorem dX6_captures_60 : decode cX6_captures 60 = .ok (.invokestatic 72, 3) := by decide +kernel
theorem dX6_captures_63 : decode cX6_captures 63 = .ok (.ifCond .eq 32, 3) := by decide +kernel
theorem dX6_captures_66 : decode cX6_captures 66 = .ok (.aload_n 0, 1) := by decide +kernel
theorem dX6_captures_67 : decode cX6_captures 67 = .ok (.getfield 20, 3) := by decide +kernel
theorem dX6_captures_70 : decode cX6_captures 70 = .ok (.bipush 16, 2) := by decide +kernel
theorem dX6_captures_72 : decode cX6_captures 72 = .ok (.bipush 16, 2) := by decide +kernel
theorem dX6_captures_74 : decode cX6_captures 74 = .ok (.aload_n 0, 1) := by decide +kernel
theorem dX6_captures_75 : decode cX6_captures 75 = .ok (.getfield 128, 3) := by decide +kernel
theorem dX6_captures_78 : decode cX6_captures 78 = .ok (.imul, 1) := by decide +kernel
theorem dX6_captures_79 : decode cX6_captures 79 = .ok (.isub, 1) := by decide +kernel
theorem dX6_captures_80 : decode cX6_captures 80 = .ok (.iload_n 1, 1) := by decide +kernel
theorem dX6_captures_81 : decode cX6_captures 81 = .ok (.iadd, 1) := by decide +kernel
theorem dX6_captures_82 : decode cX6_captures 82 = .ok (.aload_n 0, 1) := by decide +kernel
theorem dX6_captures_83 : decode cX6_captures 83 = .ok (.getfield 9, 3) := by decide +kernel
theorem dX6_captures_86 : decode cX6_captures 86 = .ok (.iadd, 1) := by decide +kernel
theorem dX6_captures_87 : decode cX6_captures 87 = .ok (.iaload, 1) := by decide +kernel
theorem dX6_captures_88 : decode cX6_captures 88 = .ok (.ifCond .le 7, 3) := by decide +kernel
theorem dX6_captures_91 : decode cX6_captures 91 = .ok (.iconst 1, 1) := by decide +kernel
theorem dX6_captures_92 : decode cX6_captures 92 = .ok (.goto 4, 3) := by decide +kernel
theorem dX6_captures_95 : decode cX6_captures 95 = .ok (.iconst 0, 1) := by decide +kernel
theorem dX6_captures_96 : decode cX6_captures 96 = .ok (.ireturn, 1) := by decide +kernel
set_option maxRecDepth 20000 in
theorem ggX6_worth_X6_in : GoodIn wsX6_worth wsX6_in := goodIn_r _ [7] (by decide +kernel) (by decide +kernel)
set_option maxRecDepth 20000 in
theorem gX6_worth_X6_in : GoodIn wsX6_worth (va_wsS RX6 67 yX6_in wsX6_in) := goodIn_app (goodIn_of _ (by decide +kernel)) ggX6_worth_X6_in
set_option maxRecDepth 20000 in
theorem ggX6_worth_X6_fails : GoodIn wsX6_worth wsX6_fails := goodIn_r _ [11, 1, 85, 86, 87, 88, 89, 90, 91, 92, 93, 94, 95, 96, 97, 98, 99, 100, 101, 102, 103] (by decide +kernel) (by decide +kernel)
set_option maxRecDepth 20000 in
theorem gX6_worth_X6_fails : GoodIn wsX6_worth (wsV RX6 143 RX6 yX6_fails wsX6_fails) := goodIn_app (goodIn_of _ (by decide +kernel)) ggX6_worth_X6_fails
set_option maxRecDepth 20000 in
theorem ggX6_worth_X6_worthNow : GoodIn wsX6_worth wsX6_worthNow := goodIn_r _ [15, 16, 2, 3, 17, 18, 19, 20, 21, 6, 22, 23, 24, 25, 26, 27, 28, 29, 30, 31, 32, 33, 34, 35, 36, 37, 38, 39, 40, 41, 42, 43, 44, 45, 46, 47, 48, 49, 50, 51, 52, 53, 54, 55, 56, 57, 58, 59, 60, 61, 62, 63, 64, 65, 66, 67, 68, 69, 70, 71, 72, 73, 4, 5, 7, 74, 75, 76, 77, 78, 79, 80, 81, 82, 83, 84, 85, 86, 87, 88, 89, 90, 91, 92, 93, 94, 95, 96, 97, 98, 99, 100, 101, 102, 103] (by decide +kernel) (by decide +kernel)
set_option maxRecDepth 20000 in
theorem gX6_worth_X6_worthNow : GoodIn wsX6_worth (wsV RX6 150 RX6 yX6_worthNow wsX6_worthNow) := goodIn_app (goodIn_of _ (by decide +kernel)) ggX6_worth_X6_worthNow
theorem dX6_worth_0 : decode cX6_worth 0 = .ok (.aload_n 0, 1) := by decide +kernel
theorem dX6_worth_1 : decode cX6_worth 1 = .ok (.iconst 0, 1) := by decide +kernel
theorem dX6_worth_2 : decode cX6_worth 2 = .ok (.putfield 64, 3) := by decide +kernel
theorem dX6_worth_5 : decode cX6_worth 5 = .ok (.iload_n 1, 1) := by decide +kernel
theorem dX6_worth_6 : decode cX6_worth 6 = .ok (.iconst 0, 1) := by decide +kernel
theorem dX6_worth_7 : decode cX6_worth 7 = .ok (.iconst 3, 1) := by decide +kernel
theorem dX6_worth_8 : decode cX6_worth 8 = .ok (.invokestatic 67, 3) := by decide +kernel
theorem dX6_worth_11 : decode cX6_worth 11 = .ok (.ifCond .ne 9, 3) := by decide +kernel
theorem dX6_worth_14 : decode cX6_worth 14 = .ok (.aload_n 0, 1) := by decide +kernel
theorem dX6_worth_15 : decode cX6_worth 15 = .ok (.iconst 1, 1) := by decide +kernel
theorem dX6_worth_16 : decode cX6_worth 16 = .ok (.invokevirtual 143, 3) := by decide +kernel
theorem dX6_worth_19 : decode cX6_worth 19 = .ok (.ireturn, 1) := by decide +kernel
theorem dX6_worth_20 : decode cX6_worth 20 = .ok (.aload_n 0, 1) := by decide +kernel
theorem dX6_worth_21 : decode cX6_worth 21 = .ok (.getfield 128, 3) := by decide +kernel
theorem dX6_worth_24 : decode cX6_worth 24 = .ok (.ifCond .ne 11, 3) := by decide +kernel
theorem dX6_worth_27 : decode cX6_worth 27 = .ok (.aload_n 0, 1) := by decide +kernel
theorem dX6_worth_28 : decode cX6_worth 28 = .ok (.iload_n 1, 1) := by decide +kernel
theorem dX6_worth_29 : decode cX6_worth 29 = .ok (.invokevirtual 150, 3) := by decide +kernel
theorem dX6_worth_32 : decode cX6_worth 32 = .ok (.goto 11, 3) := by decide +kernel
theorem dX6_worth_35 : decode cX6_worth 35 = .ok (.ldc 71, 2) := by decide +kernel
theorem dX6_worth_37 : decode cX6_worth 37 = .ok (.aload_n 0, 1) := by decide +kernel
theorem dX6_worth_38 : decode cX6_worth 38 = .ok (.iload_n 1, 1) := by decide +kernel
theorem dX6_worth_39 : decode cX6_worth 39 = .ok (.invokevirtual 150, 3) := by decide +kernel
theorem dX6_worth_42 : decode cX6_worth 42 = .ok (.isub, 1) := by decide +kernel
theorem dX6_worth_43 : decode cX6_worth 43 = .ok (.ireturn, 1) := by decide +kernel
set_option maxRecDepth 20000 in
theorem ggX6_chance_X6_in : GoodIn wsX6_chance wsX6_in := goodIn_r _ [6] (by decide +kernel) (by decide +kernel)
set_option maxRecDepth 20000 in
theorem gX6_chance_X6_in : GoodIn wsX6_chance (va_wsS RX6 67 yX6_in wsX6_in) := goodIn_app (goodIn_of _ (by decide +kernel)) ggX6_chance_X6_in
set_option maxRecDepth 20000 in
theorem ggX6_chance_X6_fails : GoodIn wsX6_chance wsX6_fails := goodIn_r _ [10, 1, 86, 87, 88, 89, 90, 91, 92, 93, 94, 95, 96, 97, 98, 99, 100, 101, 102, 103, 104] (by decide +kernel) (by decide +kernel)
set_option maxRecDepth 20000 in
theorem gX6_chance_X6_fails : GoodIn wsX6_chance (wsV RX6 143 RX6 yX6_fails wsX6_fails) := goodIn_app (goodIn_of _ (by decide +kernel)) ggX6_chance_X6_fails
set_option maxRecDepth 20000 in
theorem ggX6_chance_X6_worthNow : GoodIn wsX6_chance wsX6_worthNow := goodIn_r _ [14, 15, 16, 17, 18, 19, 20, 21, 22, 5, 23, 24, 25, 26, 27, 28, 29, 30, 31, 32, 33, 34, 35, 36, 37, 38, 39, 40, 41, 42, 43, 44, 45, 46, 47, 48, 49, 50, 51, 52, 53, 54, 55, 56, 57, 58, 59, 60, 61, 62, 63, 64, 65, 66, 67, 68, 69, 70, 71, 72, 73, 74, 3, 4, 6, 75, 76, 77, 78, 79, 80, 81, 82, 83, 84, 85, 86, 87, 88, 89, 90, 91, 92, 93, 94, 95, 96, 97, 98, 99, 100, 101, 102, 103, 104] (by decide +kernel) (by decide +kernel)
set_option maxRecDepth 20000 in
theorem gX6_chance_X6_worthNow : GoodIn wsX6_chance (wsV RX6 150 RX6 yX6_worthNow wsX6_worthNow) := goodIn_app (goodIn_of _ (by decide +kernel)) ggX6_chance_X6_worthNow
theorem dX6_chance_0 : decode cX6_chance 0 = .ok (.aload_n 0, 1) := by decide +kernel
theorem dX6_chance_1 : decode cX6_chance 1 = .ok (.iconst 0, 1) := by decide +kernel
theorem dX6_chance_2 : decode cX6_chance 2 = .ok (.putfield 64, 3) := by decide +kernel
theorem dX6_chance_5 : decode cX6_chance 5 = .ok (.iload_n 1, 1) := by decide +kernel
theorem dX6_chance_6 : decode cX6_chance 6 = .ok (.iconst 0, 1) := by decide +kernel
theorem dX6_chance_7 : decode cX6_chance 7 = .ok (.iconst 3, 1) := by decide +kernel
theorem dX6_chance_8 : decode cX6_chance 8 = .ok (.invokestatic 67, 3) := by decide +kernel
theorem dX6_chance_11 : decode cX6_chance 11 = .ok (.ifCond .ne 10, 3) := by decide +kernel
theorem dX6_chance_14 : decode cX6_chance 14 = .ok (.aload_n 0, 1) := by decide +kernel
theorem dX6_chance_15 : decode cX6_chance 15 = .ok (.iconst 1, 1) := by decide +kernel
theorem dX6_chance_16 : decode cX6_chance 16 = .ok (.invokevirtual 143, 3) := by decide +kernel
theorem dX6_chance_19 : decode cX6_chance 19 = .ok (.i2d, 1) := by decide +kernel
theorem dX6_chance_20 : decode cX6_chance 20 = .ok (.dreturn, 1) := by decide +kernel
theorem dX6_chance_21 : decode cX6_chance 21 = .ok (.aload_n 0, 1) := by decide +kernel
theorem dX6_chance_22 : decode cX6_chance 22 = .ok (.iload_n 1, 1) := by decide +kernel
theorem dX6_chance_23 : decode cX6_chance 23 = .ok (.invokevirtual 150, 3) := by decide +kernel
theorem dX6_chance_26 : decode cX6_chance 26 = .ok (.i2d, 1) := by decide +kernel
theorem dX6_chance_27 : decode cX6_chance 27 = .ok (.ldc2_w 153, 3) := by decide +kernel
theorem dX6_chance_30 : decode cX6_chance 30 = .ok (.ddiv, 1) := by decide +kernel
theorem dX6_chance_31 : decode cX6_chance 31 = .ok (.dreturn, 1) := by decide +kernel
set_option maxRecDepth 20000 in
theorem ggX6_ranked_X6_in : GoodIn wsX6_ranked wsX6_in := goodIn_r _ [6] (by decide +kernel) (by decide +kernel)
set_option maxRecDepth 20000 in
theorem gX6_ranked_X6_in : GoodIn wsX6_ranked (va_wsS RX6 67 yX6_in wsX6_in) := goodIn_app (goodIn_of _ (by decide +kernel)) ggX6_ranked_X6_in
set_option maxRecDepth 20000 in
theorem ggX6_ranked_X6_fails : GoodIn wsX6_ranked wsX6_fails := goodIn_r _ [10, 1, 80, 81, 82, 83, 84, 85, 86, 87, 88, 89, 90, 91, 92, 93, 94, 95, 96, 97, 98] (by decide +kernel) (by decide +kernel)
set_option maxRecDepth 20000 in
theorem gX6_ranked_X6_fails : GoodIn wsX6_ranked (wsV RX6 143 RX6 yX6_fails wsX6_fails) := goodIn_app (goodIn_of _ (by decide +kernel)) ggX6_ranked_X6_fails
set_option maxRecDepth 20000 in
theorem ggX6_ranked_X6_layBehind : GoodIn wsX6_ranked wsX6_layBehind := goodIn_r _ [14, 2, 15, 16, 17, 18, 19, 20, 21, 22, 5, 23, 24, 25, 26, 27, 28, 29, 30, 31, 32, 33, 3, 4, 6, 34, 35, 36, 37, 38, 39, 40, 41, 42, 43, 44, 45, 46, 47, 48, 49, 50, 51, 52, 53, 54, 55, 56, 57, 58, 59, 60, 61, 62, 63, 64, 65, 66, 67, 68, 69, 70, 71, 72, 73, 74, 75, 76, 77, 78, 79, 80, 81, 82, 83, 84, 85, 86, 87, 88, 89, 90, 91, 92, 93, 94, 95, 96, 97, 98] (by decide +kernel) (by decide +kernel)
set_option maxRecDepth 20000 in
theorem gX6_ranked_X6_layBehind : GoodIn wsX6_ranked (wsV RX6 137 RX6 yX6_layBehind wsX6_layBehind) := goodIn_app (goodIn_of _ (by decide +kernel)) ggX6_ranked_X6_layBehind
theorem dX6_ranked_0 : decode cX6_ranked 0 = .ok (.aload_n 0, 1) := by decide +kernel
theorem dX6_ranked_1 : decode cX6_ranked 1 = .ok (.iconst 0, 1) := by decide +kernel
theorem dX6_ranked_2 : decode cX6_ranked 2 = .ok (.putfield 64, 3) := by decide +kernel
theorem dX6_ranked_5 : decode cX6_ranked 5 = .ok (.iload_n 1, 1) := by decide +kernel
theorem dX6_ranked_6 : decode cX6_ranked 6 = .ok (.iconst 0, 1) := by decide +kernel
theorem dX6_ranked_7 : decode cX6_ranked 7 = .ok (.iconst 3, 1) := by decide +kernel
theorem dX6_ranked_8 : decode cX6_ranked 8 = .ok (.invokestatic 67, 3) := by decide +kernel
theorem dX6_ranked_11 : decode cX6_ranked 11 = .ok (.ifCond .eq 7, 3) := by decide +kernel
theorem dX6_ranked_14 : decode cX6_ranked 14 = .ok (.iload_n 2, 1) := by decide +kernel
theorem dX6_ranked_15 : decode cX6_ranked 15 = .ok (.ifCond .ge 9, 3) := by decide +kernel
theorem dX6_ranked_18 : decode cX6_ranked 18 = .ok (.aload_n 0, 1) := by decide +kernel
theorem dX6_ranked_19 : decode cX6_ranked 19 = .ok (.iconst 1, 1) := by decide +kernel
theorem dX6_ranked_20 : decode cX6_ranked 20 = .ok (.invokevirtual 143, 3) := by decide +kernel
theorem dX6_ranked_23 : decode cX6_ranked 23 = .ok (.ireturn, 1) := by decide +kernel
theorem dX6_ranked_24 : decode cX6_ranked 24 = .ok (.aload_n 0, 1) := by decide +kernel
theorem dX6_ranked_25 : decode cX6_ranked 25 = .ok (.iload_n 1, 1) := by decide +kernel
theorem dX6_ranked_26 : decode cX6_ranked 26 = .ok (.invokevirtual 137, 3) := by decide +kernel
theorem dX6_ranked_29 : decode cX6_ranked 29 = .ok (.iconst (-1), 1) := by decide +kernel
theorem dX6_ranked_30 : decode cX6_ranked 30 = .ok (.istore_n 3, 1) := by decide +kernel
theorem dX6_ranked_31 : decode cX6_ranked 31 = .ok (.iconst 0, 1) := by decide +kernel
theorem dX6_ranked_32 : decode cX6_ranked 32 = .ok (.istore 4, 2) := by decide +kernel
theorem dX6_ranked_34 : decode cX6_ranked 34 = .ok (.iload 4, 2) := by decide +kernel
theorem dX6_ranked_36 : decode cX6_ranked 36 = .ok (.bipush 15, 2) := by decide +kernel
theorem dX6_ranked_38 : decode cX6_ranked 38 = .ok (.if_icmp .ge 126, 3) := by decide +kernel
theorem dX6_ranked_41 : decode cX6_ranked 41 = .ok (.iconst 0, 1) := by decide +kernel
theorem dX6_ranked_42 : decode cX6_ranked 42 = .ok (.istore 5, 2) := by decide +kernel
theorem dX6_ranked_44 : decode cX6_ranked 44 = .ok (.iconst 0, 1) := by decide +kernel
theorem dX6_ranked_45 : decode cX6_ranked 45 = .ok (.istore 6, 2) := by decide +kernel
theorem dX6_ranked_47 : decode cX6_ranked 47 = .ok (.iload 6, 2) := by decide +kernel
theorem dX6_ranked_49 : decode cX6_ranked 49 = .ok (.bipush 15, 2) := by decide +kernel
theorem dX6_ranked_51 : decode cX6_ranked 51 = .ok (.if_icmp .ge 83, 3) := by decide +kernel
theorem dX6_ranked_54 : decode cX6_ranked 54 = .ok (.aload_n 0, 1) := by decide +kernel
theorem dX6_ranked_55 : decode cX6_ranked 55 = .ok (.getfield 54, 3) := by decide +kernel
theorem dX6_ranked_58 : decode cX6_ranked 58 = .ok (.iload 6, 2) := by decide +kernel
theorem dX6_ranked_60 : decode cX6_ranked 60 = .ok (.iaload, 1) := by decide +kernel
theorem dX6_ranked_61 : decode cX6_ranked 61 = .ok (.aload_n 0, 1) := by decide +kernel
theorem dX6_ranked_62 : decode cX6_ranked 62 = .ok (.getfield 54, 3) := by decide +kernel
theorem dX6_ranked_65 : decode cX6_ranked 65 = .ok (.iload 4, 2) := by decide +kernel
theorem dX6_ranked_67 : decode cX6_ranked 67 = .ok (.iaload, 1) := by decide +kernel
theorem dX6_ranked_68 : decode cX6_ranked 68 = .ok (.if_icmp .gt 27, 3) := by decide +kernel
theorem dX6_ranked_71 : decode cX6_ranked 71 = .ok (.aload_n 0, 1) := by decide +kernel
theorem dX6_ranked_72 : decode cX6_ranked 72 = .ok (.getfield 54, 3) := by decide +kernel
theorem dX6_ranked_75 : decode cX6_ranked 75 = .ok (.iload 6, 2) := by decide +kernel
theorem dX6_ranked_77 : decode cX6_ranked 77 = .ok (.iaload, 1) := by decide +kernel
theorem dX6_ranked_78 : decode cX6_ranked 78 = .ok (.aload_n 0, 1) := by decide +kernel
theorem dX6_ranked_79 : decode cX6_ranked 79 = .ok (.getfield 54, 3) := by decide +kernel
theorem dX6_ranked_82 : decode cX6_ranked 82 = .ok (.iload 4, 2) := by decide +kernel
theorem dX6_ranked_84 : decode cX6_ranked 84 = .ok (.iaload, 1) := by decide +kernel
theorem dX6_ranked_85 : decode cX6_ranked 85 = .ok (.if_icmp .ne 14, 3) := by decide +kernel
theorem dX6_ranked_88 : decode cX6_ranked 88 = .ok (.iload 6, 2) := by decide +kernel
theorem dX6_ranked_90 : decode cX6_ranked 90 = .ok (.iload 4, 2) := by decide +kernel
theorem dX6_ranked_92 : decode cX6_ranked 92 = .ok (.if_icmp .ge 7, 3) := by decide +kernel
theorem dX6_ranked_95 : decode cX6_ranked 95 = .ok (.iconst 1, 1) := by decide +kernel
theorem dX6_ranked_96 : decode cX6_ranked 96 = .ok (.goto 4, 3) := by decide +kernel
theorem dX6_ranked_99 : decode cX6_ranked 99 = .ok (.iconst 0, 1) := by decide +kernel
theorem dX6_ranked_100 : decode cX6_ranked 100 = .ok (.istore 7, 2) := by decide +kernel
theorem dX6_ranked_102 : decode cX6_ranked 102 = .ok (.iload 5, 2) := by decide +kernel
theorem dX6_ranked_104 : decode cX6_ranked 104 = .ok (.aload_n 0, 1) := by decide +kernel
theorem dX6_ranked_105 : decode cX6_ranked 105 = .ok (.getfield 54, 3) := by decide +kernel
theorem dX6_ranked_108 : decode cX6_ranked 108 = .ok (.iload 6, 2) := by decide +kernel
theorem dX6_ranked_110 : decode cX6_ranked 110 = .ok (.iaload, 1) := by decide +kernel
theorem dX6_ranked_111 : decode cX6_ranked 111 = .ok (.iconst (-1), 1) := by decide +kernel
theorem dX6_ranked_112 : decode cX6_ranked 112 = .ok (.if_icmp .eq 12, 3) := by decide +kernel
theorem dX6_ranked_115 : decode cX6_ranked 115 = .ok (.iload 7, 2) := by decide +kernel
theorem dX6_ranked_117 : decode cX6_ranked 117 = .ok (.ifCond .eq 7, 3) := by decide +kernel
theorem dX6_ranked_120 : decode cX6_ranked 120 = .ok (.iconst 1, 1) := by decide +kernel
theorem dX6_ranked_121 : decode cX6_ranked 121 = .ok (.goto 4, 3) := by decide +kernel
theorem dX6_ranked_124 : decode cX6_ranked 124 = .ok (.iconst 0, 1) := by decide +kernel
theorem dX6_ranked_125 : decode cX6_ranked 125 = .ok (.iadd, 1) := by decide +kernel
theorem dX6_ranked_126 : decode cX6_ranked 126 = .ok (.istore 5, 2) := by decide +kernel
theorem dX6_ranked_128 : decode cX6_ranked 128 = .ok (.iinc 6 1, 3) := by decide +kernel
theorem dX6_ranked_131 : decode cX6_ranked 131 = .ok (.goto (-84), 3) := by decide +kernel
theorem dX6_ranked_134 : decode cX6_ranked 134 = .ok (.aload_n 0, 1) := by decide +kernel
theorem dX6_ranked_135 : decode cX6_ranked 135 = .ok (.getfield 54, 3) := by decide +kernel
theorem dX6_ranked_138 : decode cX6_ranked 138 = .ok (.iload 4, 2) := by decide +kernel
theorem dX6_ranked_140 : decode cX6_ranked 140 = .ok (.iaload, 1) := by decide +kernel
theorem dX6_ranked_141 : decode cX6_ranked 141 = .ok (.iconst (-1), 1) := by decide +kernel
theorem dX6_ranked_142 : decode cX6_ranked 142 = .ok (.if_icmp .eq 14, 3) := by decide +kernel
theorem dX6_ranked_145 : decode cX6_ranked 145 = .ok (.iload 5, 2) := by decide +kernel
theorem dX6_ranked_147 : decode cX6_ranked 147 = .ok (.iload_n 2, 1) := by decide +kernel
theorem dX6_ranked_148 : decode cX6_ranked 148 = .ok (.if_icmp .ne 8, 3) := by decide +kernel
theorem dX6_ranked_151 : decode cX6_ranked 151 = .ok (.iload 4, 2) := by decide +kernel
theorem dX6_ranked_153 : decode cX6_ranked 153 = .ok (.goto 4, 3) := by decide +kernel
theorem dX6_ranked_156 : decode cX6_ranked 156 = .ok (.iload_n 3, 1) := by decide +kernel
theorem dX6_ranked_157 : decode cX6_ranked 157 = .ok (.istore_n 3, 1) := by decide +kernel
theorem dX6_ranked_158 : decode cX6_ranked 158 = .ok (.iinc 4 1, 3) := by decide +kernel
theorem dX6_ranked_161 : decode cX6_ranked 161 = .ok (.goto (-127), 3) := by decide +kernel
theorem dX6_ranked_164 : decode cX6_ranked 164 = .ok (.iload_n 3, 1) := by decide +kernel
theorem dX6_ranked_165 : decode cX6_ranked 165 = .ok (.ireturn, 1) := by decide +kernel
end
section
/-! Our own rows: shorter forms of the kit's rows, worlds by places, calls that only read. -/
/-- a truth as an int -/
def bI (b : Bool) : Int32 := if b then 1 else 0
theorem bI_0 {b : Bool} : bI b = 0 ↔ b = false := by cases b <;> decide
theorem bI_1 {b : Bool} : ¬ bI b = 0 ↔ b = true := by cases b <;> decide
theorem bI_nar (b : Bool) : narrow .boolean (.int (bI b)) = .int (bI b) := by cases b <;> rfl
theorem bI_t {b : Bool} (h : b = true) : (1 : Int32) = bI b := by rw [h]; rfl
theorem bI_f {b : Bool} (h : b = false) : (0 : Int32) = bI b := by rw [h]; rfl
/-- addresses: apart, of a kind -/
def zD (A : Nat → Prop) (al : List Nat) : Prop := al.Nodup ∧ ∀ a ∈ al, A a
def zA (al : List Nat) : Nat → Prop := fun q => q ∈ al
theorem zD.va {A : Nat → Prop} {ws : va_W} {al : List Nat} (h : zD A al) (e : ws.map Prod.fst = al) : va_D A ws := by
  subst e
  refine ⟨fun i j p q hi hj e => ?_, fun k q hk => h.2 _ (List.mem_map_of_mem (List.mem_of_getElem? hk))⟩
  have h1 : (ws.map Prod.fst)[i]? = some p.1 := by rw [List.getElem?_map, hi]; rfl
  have h2 : (ws.map Prod.fst)[j]? = some q.1 := by rw [List.getElem?_map, hj]; rfl
  have hil : i < (ws.map Prod.fst).length := (List.getElem?_eq_some_iff.mp h1).1
  exact (List.getElem?_inj hil h.1).mp (by rw [h1, h2, e])
/-- a world with cells put in at places -/
def zset : va_W → List Nat → va_W → va_W
  | ws, i :: is, e :: es => zset (ws.set i e) is es
  | ws, _, _ => ws
theorem zset_get : ∀ (is : List Nat) (es ws : va_W) (k : Nat) (q : Nat × va_E), is.length = es.length → (zset ws is es)[k]? = some q → q ∈ es ∨ (ws[k]? = some q ∧ k ∉ is) := by
  intro is
  induction is with
  | nil =>
    intro es ws k q hl h
    cases es with
    | nil => exact Or.inr ⟨h, by simp⟩
    | cons e es => simp at hl
  | cons i is ih =>
    intro es ws k q hl h
    cases es with
    | nil => simp at hl
    | cons e es =>
      rcases ih es (ws.set i e) k q (by simpa using hl) h with h1 | ⟨h1, h2⟩
      · exact Or.inl (List.mem_cons_of_mem _ h1)
      · by_cases hik : i = k
        · subst hik
          rw [List.getElem?_set] at h1
          simp only [if_true] at h1
          split at h1
          · cases h1
            exact Or.inl List.mem_cons_self
          · cases h1
        · rw [List.getElem?_set, if_neg hik] at h1
          exact Or.inr ⟨h1, by simp only [List.mem_cons, not_or]; exact ⟨fun e => hik e.symm, h2⟩⟩
theorem zP_set {D : va_G} {cl : List vw_C} {A : Nat → Prop} {ws w1 : va_W} {H H1 : Heap} {al : List Nat} (isC : List Nat) (hP : va_P D cl ws H) (hDD : zD A (ws.map Prod.fst)) (hal : isC.map (fun i => (ws[i]?).map Prod.fst) = al.map some) (hw : w1.map Prod.fst = al)
    (hk : ∀ q : Nat, q < H.size → ¬ zA al q → H1[q]? = H[q]?) (hP1 : va_P D cl w1 H1) : va_P D cl (zset ws isC w1) H1 := by
  intro k q hq
  have hlen : isC.length = w1.length := by
    have h1 := congrArg List.length hal
    have h2 := congrArg List.length hw
    simp only [List.length_map] at h1 h2
    omega
  rcases zset_get isC w1 ws k q hlen hq with h | ⟨h, hn⟩
  · obtain ⟨j, hj⟩ := List.getElem?_of_mem h
    exact hP1 j q hj
  · refine (hP k q h).kept (hk q.1 (hP k q h).lt (fun hm => hn ?_))
    have hm2 : some q.1 ∈ al.map some := List.mem_map_of_mem hm
    rw [← hal] at hm2
    obtain ⟨i, hi, he⟩ := List.mem_map.mp hm2
    have hD := hDD.va rfl
    cases hwi : ws[i]? with
    | none => rw [hwi] at he; cases he
    | some x =>
      rw [hwi] at he
      have e1 : x.1 = q.1 := Option.some.inj he
      have := hD.1 i k x q hwi h e1
      rw [← this]; exact hi
/-- a fact of a state that the tables and the heap alone decide -/
def zB (X : State → Prop) : Prop := ∀ U V : State, U.vm.Alike V.vm → V.heap = U.heap → X U → X V
theorem zB_T : zB (fun _ => True) := fun _ _ _ _ h => h
/-- a start: the arguments, a world, the tables, a fact -/
def zPc (av : List Value) (D : va_G) (cl : List vw_C) (tys : List (ClassId × FieldType)) (w : va_W) (X : State → Prop) : Array Value → State → Prop := va_Pc av (fun U => va_P D cl w U.heap ∧ va_K D cl tys U ∧ X U)
theorem zPc_bl {av : List Value} {D : va_G} {cl : List vw_C} {tys : List (ClassId × FieldType)} {w : va_W} {X : State → Prop} (hX : zB X) : FrameBlind (zPc av D cl tys w X) := fun a U g mk q => ⟨q.1, q.2.1, va_K.moved (u := U) (U := U.calling g mk a) (Vm.Alike.refl U.vm) q.2.2.1, hX U (U.calling g mk a) (Vm.Alike.refl U.vm) rfl q.2.2.2⟩
theorem zPc_S {s : State} {H : Heap} {As : List Value} {D : va_G} {cl : List vw_C} {tys : List (ClassId × FieldType)} {ws w : va_W} {X : State → Prop} (hX : zB X) (hP : va_P D cl ws H) (hK : va_K D cl tys s) (is : List Nat) (hs : is.filterMap (fun i => ws[i]?) = w) (hXs : ∀ U : State, U.heap = H → s.vm.Alike U.vm → X U) : PreS s H (zPc As D cl tys w X) As :=
  ⟨zPc_bl hX, fun U hU hW => ⟨rfl, by rw [hU]; exact hP.sub is hs, va_K.moved hW.alike hK, hXs U hU hW.alike⟩⟩
theorem zPc_V {s : State} {H : Heap} {b : Nat} {As : List Value} {D : va_G} {cl : List vw_C} {tys : List (ClassId × FieldType)} {ws w : va_W} {X : State → Prop} {q : vw_C} {ci q0 : Nat} {fs : List Value} (hX : zB X) (hP : va_P D cl ws H) (hK : va_K D cl tys s) (hc : cl[ci]? = some q) (he : ws[q0]? = some (b, .inr (ci, fs))) (is : List Nat) (hs : is.filterMap (fun i => ws[i]?) = w) (hXs : ∀ U : State, U.heap = H → s.vm.Alike U.vm → X U) : PreV s H q.1 b (zPc (.ref b :: As) D cl tys w X) As :=
  ⟨zPc_bl hX, va_recv hK hP hc he, fun U hU hW => ⟨rfl, by rw [hU]; exact hP.sub is hs, va_K.moved hW.alike hK, hXs U hU hW.alike⟩⟩
/-- a start of a method that computes on numbers alone -/
theorem zPu {s : State} {H : Heap} {As : List Value} : PreS s H (va_Pc As (fun _ => True)) As := ⟨fun a U g mk q => q, fun U hU hW => ⟨rfl, trivial⟩⟩
/-- nothing may be changed -/
abbrev zF : Nat → Prop := fun _ => False
section ZZ
variable {p : Program} {l : Launch} {e : Env} {R : Room} {s : State} {m : MethodId} {args : Array Value} {below : List Frame} {meth : Method} {c : Code} {H : Heap} {locs : List Loc} {cells slots : Nat} {Q : State → Prop}
variable {cc : ByteArray} {pc : Nat} {ls : Array Slot} {rest st0 : List Value} {D : va_G} {cl : List vw_C} {A A0 : Nat → Prop} {a : Nat} {tys : List (ClassId × FieldType)} {ws : va_W} {H0 : Heap} {av : Array Value}
theorem zz_i {x y : Int32} (h : x = y) (k : W p l e R s m args below meth c H locs cells slots Q (F0 m pc ls (.int y :: rest))) : W p l e R s m args below meth c H locs cells slots Q (F0 m pc ls (.int x :: rest)) := by rw [h]; exact k
theorem zz_l {x y : Int64} (h : x = y) (k : W p l e R s m args below meth c H locs cells slots Q (F0 m pc ls (.long y :: rest))) : W p l e R s m args below meth c H locs cells slots Q (F0 m pc ls (.long x :: rest)) := by rw [h]; exact k
theorem zz_r {x y : Nat} (h : x = y) (k : W p l e R s m args below meth c H locs cells slots Q (F0 m pc ls (.ref y :: rest))) : W p l e R s m args below meth c H locs cells slots Q (F0 m pc ls (.ref x :: rest)) := by rw [h]; exact k
/-- calls that only read -/
theorem zro_i {val : Int32} (hr : va_Run p l e R s m args below meth c H locs cells slots 0 0 (F0 m pc ls st0) rest (va_Qi (fun (r : Int32) (_ : Unit) => r = val) (fun _ _ => True) zF av) zF) (hP : va_P D cl ws H) (hS : va_S A0 H0 H locs)
    (kk : ∀ (H1 : Heap) (locs1 : List Loc), va_P D cl ws H1 → va_S A0 H0 H1 locs1 → W p l e R s m args below meth c H1 locs1 cells slots Q (F0 m (pc + 3) ls (.int val :: rest))) : W p l e R s m args below meth c H locs cells slots Q (F0 m pc ls st0) :=
  va_calli hr hS (fun _ _ h => h.elim) (fun _ h => h.elim) (fun r u t H1 locs1 ht hvm hw hB hz1 hk1 hS1 => by
    have hw : r = val := hw
    subst hw
    exact kk H1 locs1 (hP.kept (fun k q hk => hk1 q.1 (hP k q hk).lt (fun h => h))) hS1)
theorem zro_l {val : Int64} (hr : va_Run p l e R s m args below meth c H locs cells slots 0 0 (F0 m pc ls st0) rest (va_Ql (fun (r : Int64) (_ : Unit) => r = val) (fun _ _ => True) zF av) zF) (hP : va_P D cl ws H) (hS : va_S A0 H0 H locs)
    (kk : ∀ (H1 : Heap) (locs1 : List Loc), va_P D cl ws H1 → va_S A0 H0 H1 locs1 → W p l e R s m args below meth c H1 locs1 cells slots Q (F0 m (pc + 3) ls (.long val :: rest))) : W p l e R s m args below meth c H locs cells slots Q (F0 m pc ls st0) :=
  va_calll hr hS (fun _ _ h => h.elim) (fun _ h => h.elim) (fun r u t H1 locs1 ht hvm hw hB hz1 hk1 hS1 => by
    have hw : r = val := hw
    subst hw
    exact kk H1 locs1 (hP.kept (fun k q hk => hk1 q.1 (hP k q hk).lt (fun h => h))) hS1)
theorem zro_r {val : Nat} (hr : va_Run p l e R s m args below meth c H locs cells slots 0 0 (F0 m pc ls st0) rest (va_Qr (fun (_ : Unit) => True) (fun _ (r : Nat) _ => r = val) zF av) zF) (hP : va_P D cl ws H) (hS : va_S A0 H0 H locs)
    (kk : ∀ (H1 : Heap) (locs1 : List Loc), va_P D cl ws H1 → va_S A0 H0 H1 locs1 → W p l e R s m args below meth c H1 locs1 cells slots Q (F0 m (pc + 3) ls (.ref val :: rest))) : W p l e R s m args below meth c H locs cells slots Q (F0 m pc ls st0) :=
  va_callr hr hS (fun _ _ h => h.elim) (fun _ h => h.elim) (fun u r t H1 locs1 ht hvm hw hB hz1 hk1 hS1 => by
    have hB : r = val := hB
    subst hB
    exact kk H1 locs1 (hP.kept (fun k q hk => hk1 q.1 (hP k q hk).lt (fun h => h))) hS1)
theorem zA_sub {isC al : List Nat} (hDD : zD A0 (ws.map Prod.fst)) (hal : isC.map (fun i => (ws[i]?).map Prod.fst) = al.map some) : ∀ q, zA al q → A0 q := by
  intro q hm
  have hm2 : some q ∈ al.map some := List.mem_map_of_mem hm
  rw [← hal] at hm2
  obtain ⟨i, hi, he⟩ := List.mem_map.mp hm2
  cases hwi : ws[i]? with
  | none => rw [hwi] at he; cases he
  | some x =>
    rw [hwi] at he
    have e1 : x.1 = q := Option.some.inj he
    exact hDD.2 q (e1 ▸ List.mem_map_of_mem (List.mem_of_getElem? hwi))
/-- calls that write in their own world -/
theorem zrw_i {σ : Type} {post : Int32 → σ → Prop} {w1 : σ → va_W} {al : List Nat} (hr : va_Run p l e R s m args below meth c H locs cells slots 0 0 (F0 m pc ls st0) rest (va_Qi post (fun u t => va_P D cl (w1 u) t.heap) (zA al) av) (zA al)) (hP : va_P D cl ws H) (hDD : zD A0 (ws.map Prod.fst)) (hS : va_S A0 H0 H locs) (isC : List Nat) (hal : isC.map (fun i => (ws[i]?).map Prod.fst) = al.map some) (hw1 : ∀ u, (w1 u).map Prod.fst = al)
    (kk : ∀ (r : Int32) (u : σ) (H1 : Heap) (locs1 : List Loc), post r u → va_P D cl (zset ws isC (w1 u)) H1 → va_S A0 H0 H1 locs1 → W p l e R s m args below meth c H1 locs1 cells slots Q (F0 m (pc + 3) ls (.int r :: rest))) : W p l e R s m args below meth c H locs cells slots Q (F0 m pc ls st0) :=
  va_calli hr hS (fun q _ h => zA_sub hDD hal q h) (zA_sub hDD hal) (fun r u t H1 locs1 ht hvm hw hB hz1 hk1 hS1 => kk r u H1 locs1 hw (zP_set isC hP hDD hal (hw1 u) hk1 (by rw [← ht]; exact hB)) hS1)
theorem zrw_v {σ : Type} {post : σ → Prop} {w1 : σ → va_W} {al : List Nat} (hr : va_Run p l e R s m args below meth c H locs cells slots 0 0 (F0 m pc ls st0) rest (va_Qv post (fun u t => va_P D cl (w1 u) t.heap) (zA al) av) (zA al)) (hP : va_P D cl ws H) (hDD : zD A0 (ws.map Prod.fst)) (hS : va_S A0 H0 H locs) (isC : List Nat) (hal : isC.map (fun i => (ws[i]?).map Prod.fst) = al.map some) (hw1 : ∀ u, (w1 u).map Prod.fst = al)
    (kk : ∀ (u : σ) (H1 : Heap) (locs1 : List Loc), post u → va_P D cl (zset ws isC (w1 u)) H1 → va_S A0 H0 H1 locs1 → W p l e R s m args below meth c H1 locs1 cells slots Q (F0 m (pc + 3) ls rest)) : W p l e R s m args below meth c H locs cells slots Q (F0 m pc ls st0) :=
  va_callv hr hS (fun q _ h => zA_sub hDD hal q h) (zA_sub hDD hal) (fun u t H1 locs1 ht hvm hw hB hz1 hk1 hS1 => kk u H1 locs1 hw (zP_set isC hP hDD hal (hw1 u) hk1 (by rw [← ht]; exact hB)) hS1)
/-- arrays by a natural index -/
theorem zi_iald (hexec : p.tables.exec = Jvm.exec) (hb : c.code = cc) (hK : va_K D cl tys s) (hP : va_P D cl ws H) (q0 t0 : Nat) {cA : ClassId} {n : Nat} {f : Nat → Int32} (ha : ws[q0]? = some (a, .inl (cA, n, .inl f))) (ht : tys[t0]? = some (cA, .int)) {i : Int32} {j : Nat} (hi : i = nI j) (hj : j < n) (hn : n < 2 ^ 31) (hdg : decode cc pc = .ok (.iaload, 1))
    (kk : W p l e R s m args below meth c H locs cells slots Q (F0 m (pc + 1) ls (.int (f j) :: rest))) : W p l e R s m args below meth c H locs cells slots Q (F0 m pc ls (.int i :: .ref a :: rest)) := by
  subst hi
  refine va_iald hexec hb hK hP q0 t0 ha ht (vp_in_nI hj hn) hdg ?_
  rw [nI_clamp (by omega)]
  exact kk
theorem zi_lald (hexec : p.tables.exec = Jvm.exec) (hb : c.code = cc) (hK : va_K D cl tys s) (hP : va_P D cl ws H) (q0 t0 : Nat) {cA : ClassId} {n : Nat} {f : Nat → Int64} (ha : ws[q0]? = some (a, .inl (cA, n, .inr (.inl f)))) (ht : tys[t0]? = some (cA, .long)) {i : Int32} {j : Nat} (hi : i = nI j) (hj : j < n) (hn : n < 2 ^ 31) (hdg : decode cc pc = .ok (.laload, 1))
    (kk : W p l e R s m args below meth c H locs cells slots Q (F0 m (pc + 1) ls (.long (f j) :: rest))) : W p l e R s m args below meth c H locs cells slots Q (F0 m pc ls (.int i :: .ref a :: rest)) := by
  subst hi
  refine va_lald hexec hb hK hP q0 t0 ha ht (vp_in_nI hj hn) hdg ?_
  rw [nI_clamp (by omega)]
  exact kk
theorem zi_iast (hexec : p.tables.exec = Jvm.exec) (hb : c.code = cc) (hK : va_K D cl tys s) (hP : va_P D cl ws H) (hDD : zD A (ws.map Prod.fst)) (hS : va_S A H0 H locs) (q0 t0 : Nat) {cA : ClassId} {n : Nat} {f : Nat → Int32} (ha : ws[q0]? = some (a, .inl (cA, n, .inl f))) (ht : tys[t0]? = some (cA, .int)) {i : Int32} {x : Int32} {j : Nat} (hi : i = nI j) (hj : j < n) (hn : n < 2 ^ 31) (hdg : decode cc pc = .ok (.iastore, 1))
    (kk : ∀ (H1 : Heap) (locs1 : List Loc), va_P D cl (ws.set q0 (a, .inl (cA, n, .inl (upd f j x)))) H1 → va_S A H0 H1 locs1 → W p l e R s m args below meth c H1 locs1 cells slots Q (F0 m (pc + 1) ls rest)) : W p l e R s m args below meth c H locs cells slots Q (F0 m pc ls (.int x :: .int i :: .ref a :: rest)) := by
  subst hi
  refine va_iast hexec hb hK hP (hDD.va rfl) hS q0 t0 ha ht (vp_in_nI hj hn) hdg (fun H1 locs1 h1 _ h3 => ?_)
  rw [nI_clamp (by omega)] at h1
  exact kk H1 locs1 h1 h3
theorem zi_last (hexec : p.tables.exec = Jvm.exec) (hb : c.code = cc) (hK : va_K D cl tys s) (hP : va_P D cl ws H) (hDD : zD A (ws.map Prod.fst)) (hS : va_S A H0 H locs) (q0 t0 : Nat) {cA : ClassId} {n : Nat} {f : Nat → Int64} (ha : ws[q0]? = some (a, .inl (cA, n, .inr (.inl f)))) (ht : tys[t0]? = some (cA, .long)) {i : Int32} {x : Int64} {j : Nat} (hi : i = nI j) (hj : j < n) (hn : n < 2 ^ 31) (hdg : decode cc pc = .ok (.lastore, 1))
    (kk : ∀ (H1 : Heap) (locs1 : List Loc), va_P D cl (ws.set q0 (a, .inl (cA, n, .inr (.inl (vp_updL f j x))))) H1 → va_S A H0 H1 locs1 → W p l e R s m args below meth c H1 locs1 cells slots Q (F0 m (pc + 1) ls rest)) : W p l e R s m args below meth c H locs cells slots Q (F0 m pc ls (.long x :: .int i :: .ref a :: rest)) := by
  subst hi
  refine va_last hexec hb hK hP (hDD.va rfl) hS q0 t0 ha ht (vp_in_nI hj hn) hdg (fun H1 locs1 h1 _ h3 => ?_)
  rw [nI_clamp (by omega)] at h1
  exact kk H1 locs1 h1 h3
end ZZ
end
section
/-! ===== lN n to 2^64: shifts, and, or, masks, one bit ===== -/
theorem wb_tb (n : Nat) : (lN n).toBitVec = BitVec.ofNat 64 n := rfl
theorem wb_inj {a b : Int64} (h : a.toBitVec = b.toBitVec) : a = b := Int64.toBitVec_inj.mp h
theorem wb_tn {n : Nat} (h : n < 2 ^ 64) : (lN n).toBitVec.toNat = n := by rw [wb_tb, BitVec.toNat_ofNat, Nat.mod_eq_of_lt h]
theorem wb_of (x : Int64) : ∃ n, n < 2 ^ 64 ∧ x = lN n := ⟨x.toBitVec.toNat, x.toBitVec.isLt, wb_inj (by rw [wb_tb]; simp)⟩
theorem wb_of32 (x : Int32) : ∃ n, n < 2 ^ 32 ∧ x = nI n := ⟨x.toBitVec.toNat, x.toBitVec.isLt, Int32.toBitVec_inj.mp (by show _ = BitVec.ofNat 32 _; simp)⟩
theorem wb_c : ∀ k, k < 64 → ((nI k).toInt64 &&& 63) = lN k := by decide +kernel
theorem wb_cu : ∀ k, k < 64 → ((nI k).toInt64.toUInt64 &&& Int64.toUInt64 63) = UInt64.ofNat k := by decide +kernel
theorem wb_sm : ∀ k, k < 64 → (BitVec.ofNat 64 k).smod 64 = BitVec.ofNat 64 k := by decide +kernel
theorem wb_pw {a b : Nat} (h : a ≤ b) : 2 ^ b = 2 ^ a * 2 ^ (b - a) := by rw [← Nat.pow_add]; congr 1; omega
theorem wb_lt2 {a b : Nat} (h : a < b) : 2 ^ a < 2 ^ b := Nat.pow_lt_pow_right (by decide) h
theorem wb_mod (n : Nat) : lN n = lN (n % 2 ^ 64) := wb_inj (by rw [wb_tb, wb_tb]; apply BitVec.eq_of_toNat_eq; rw [BitVec.toNat_ofNat, BitVec.toNat_ofNat, Nat.mod_mod])
theorem wb_shr {n k : Nat} (hn : n < 2 ^ 64) (hk : k < 64) : ((lN n).toUInt64 >>> ((nI k).toInt64.toUInt64 &&& Int64.toUInt64 63)).toInt64 = lN (n / 2 ^ k) := by
  rw [wb_cu k hk]
  apply wb_inj
  apply BitVec.eq_of_toNat_eq
  show ((lN n).toUInt64 >>> UInt64.ofNat k).toNat = (BitVec.ofNat 64 _).toNat
  have h1 : (UInt64.ofNat k).toNat = k := by
    show (BitVec.ofNat 64 k).toNat = k
    rw [BitVec.toNat_ofNat, Nat.mod_eq_of_lt (by omega)]
  have h2 : (lN n).toUInt64.toNat = n := wb_tn hn
  rw [UInt64.toNat_shiftRight, h1, h2, Nat.mod_eq_of_lt hk, Nat.shiftRight_eq_div_pow, BitVec.toNat_ofNat, Nat.mod_eq_of_lt (Nat.lt_of_le_of_lt (Nat.div_le_self _ _) hn)]
theorem wb_shl (n : Nat) {k : Nat} (hk : k < 64) : lN n <<< ((nI k).toInt64 &&& 63) = lN (n * 2 ^ k) := by
  rw [wb_c k hk]
  apply wb_inj
  rw [Int64.toBitVec_shiftLeft, wb_tb, wb_tb, wb_tb, wb_sm k hk]
  apply BitVec.eq_of_toNat_eq
  rw [BitVec.shiftLeft_eq', BitVec.toNat_shiftLeft, BitVec.toNat_ofNat, BitVec.toNat_ofNat, BitVec.toNat_ofNat, Nat.mod_eq_of_lt (show k < 2 ^ 64 by omega), Nat.shiftLeft_eq, Nat.mul_mod, Nat.mod_mod, ← Nat.mul_mod]
theorem wb_and {a b : Nat} (ha : a < 2 ^ 64) (hb : b < 2 ^ 64) : lN a &&& lN b = lN (a &&& b) := by
  apply wb_inj
  rw [Int64.toBitVec_and, wb_tb, wb_tb, wb_tb]
  apply BitVec.eq_of_toNat_eq
  rw [BitVec.toNat_and, BitVec.toNat_ofNat, BitVec.toNat_ofNat, BitVec.toNat_ofNat, Nat.mod_eq_of_lt ha, Nat.mod_eq_of_lt hb, Nat.mod_eq_of_lt (Nat.and_lt_two_pow _ hb)]
theorem wb_or {a b : Nat} (ha : a < 2 ^ 64) (hb : b < 2 ^ 64) : lN a ||| lN b = lN (a ||| b) := by
  apply wb_inj
  rw [Int64.toBitVec_or, wb_tb, wb_tb, wb_tb]
  apply BitVec.eq_of_toNat_eq
  rw [BitVec.toNat_or, BitVec.toNat_ofNat, BitVec.toNat_ofNat, BitVec.toNat_ofNat, Nat.mod_eq_of_lt ha, Nat.mod_eq_of_lt hb, Nat.mod_eq_of_lt (Nat.or_lt_two_pow ha hb)]
theorem wb_mask {n k : Nat} (hn : n < 2 ^ 64) (hk : k < 64) : lN n &&& lN (2 ^ k - 1) = lN (n % 2 ^ k) := by
  rw [wb_and hn (by have := wb_lt2 hk; omega), Nat.and_two_pow_sub_one_eq_mod]
theorem wb_a1 {n : Nat} (hn : n < 2 ^ 64) : lN n &&& 1 = lN (n % 2) := wb_mask (k := 1) hn (by decide)
theorem wb_bit {n k : Nat} (hn : n < 2 ^ 64) (hk : k < 64) : ((lN n).toUInt64 >>> ((nI k).toInt64.toUInt64 &&& Int64.toUInt64 63)).toInt64 &&& 1 = lN (n / 2 ^ k % 2) := by
  rw [wb_shr hn hk, wb_a1 (Nat.lt_of_le_of_lt (Nat.div_le_self _ _) hn)]
theorem wb_xor {q k : Nat} (hk : k < 63) (h : 2 ^ k ≤ q) (h2 : q < 2 ^ (k + 1)) : lN q ^^^ lN (2 ^ k) = lN (q - 2 ^ k) := by
  obtain ⟨r, rfl⟩ : ∃ r, q = 2 ^ k + r := ⟨q - 2 ^ k, by omega⟩
  have hr : r < 2 ^ k := by rw [Nat.pow_succ] at h2; omega
  have hx : (2 ^ k + r) ^^^ 2 ^ k = r := by
    apply Nat.eq_of_testBit_eq
    intro i
    rw [Nat.testBit_xor, Nat.testBit_two_pow]
    rcases Nat.lt_trichotomy i k with h | h | h
    · rw [Nat.testBit_two_pow_add_gt h]
      simp [show ¬ k = i by omega]
    · subst h
      rw [Nat.testBit_two_pow_add_eq]
      simp
    · have a1 : 2 ^ (k + 1) ≤ 2 ^ i := Nat.pow_le_pow_right (by decide) h
      rw [Nat.testBit_lt_two_pow (show 2 ^ k + r < 2 ^ i by omega), Nat.testBit_lt_two_pow (show r < 2 ^ i by omega)]
      simp [show ¬ k = i by omega]
  have b1 := wb_lt2 (show k + 1 < 64 by omega)
  have b2 := wb_lt2 (show k < 64 by omega)
  apply wb_inj
  rw [Int64.toBitVec_xor, wb_tb, wb_tb, wb_tb]
  apply BitVec.eq_of_toNat_eq
  rw [BitVec.toNat_xor, BitVec.toNat_ofNat, BitVec.toNat_ofNat, BitVec.toNat_ofNat, Nat.mod_eq_of_lt (by omega : 2 ^ k + r < 2 ^ 64), Nat.mod_eq_of_lt b2, hx, Nat.add_sub_cancel_left, Nat.mod_eq_of_lt (by omega)]
/-! two rows of NUMBERS.to-paste -/
theorem fa_and (a b : Nat) : nI a &&& nI b = nI (a &&& b) := by
  apply Int32.toBitVec_inj.1
  show BitVec.ofNat 32 a &&& BitVec.ofNat 32 b = BitVec.ofNat 32 (a &&& b)
  apply BitVec.eq_of_getLsbD_eq
  intro i hi
  simp [hi]
theorem fa_mask (n k : Nat) : nI n &&& nI (2 ^ k - 1) = nI (n % 2 ^ k) := by rw [fa_and, Nat.and_two_pow_sub_one_eq_mod]
/-! The game in numbers: a side's pieces are the hexadecimal digits of a number, place by place. -/
def dg (n p : Nat) : Nat := n / 16 ^ p % 16
theorem dg_lt (n p : Nat) : dg n p < 16 := Nat.mod_lt _ (by decide)
theorem dg_big {n p : Nat} (hn : n < 2 ^ 63) (hp : 15 < p) : dg n p = 0 := by
  have h1 : (16 : Nat) ^ 16 ≤ 16 ^ p := Nat.pow_le_pow_right (by decide) hp
  have h2 : n < 16 ^ p := Nat.lt_of_lt_of_le (Nat.lt_of_lt_of_le hn (by decide)) h1
  rw [dg, Nat.div_eq_of_lt h2]
theorem zcnt (n p : Nat) : nI (n / 2 ^ (4 * p)) &&& 15 = nI (dg n p) := by
  rw [dg, show (16 : Nat) ^ p = 2 ^ (4 * p) by rw [Nat.pow_mul]]
  exact fa_mask _ 4
/-- the sum of the first k digits; the sum of the places -/
def dsum (n : Nat) : Nat → Nat
  | 0 => 0
  | k + 1 => dsum n k + dg n k
def psum (n : Nat) : Nat → Nat
  | 0 => 0
  | k + 1 => psum n k + k * dg n k
theorem psum_le (n : Nat) : ∀ k, k ≤ 16 → psum n k ≤ 256 * k := by
  intro k
  induction k with
  | zero => intro _; exact Nat.le_refl _
  | succ k ih =>
    intro hk
    have h1 := ih (by omega)
    have h2 := dg_lt n k
    have h3 : k * dg n k ≤ 15 * 15 := Nat.mul_le_mul (by omega) (by omega)
    show psum n k + k * dg n k ≤ _
    omega
/-- the first place that holds a piece, from p on, at most 15 -/
def zfs (n : Nat) : Nat → Nat → Nat
  | p, 0 => p
  | p, k + 1 => if dg n p = 0 then zfs n (p + 1) k else p
theorem zfs_z {n p : Nat} : zfs n p 0 = p := rfl
theorem zfs_s {n p k : Nat} : zfs n p (k + 1) = if dg n p = 0 then zfs n (p + 1) k else p := rfl
def zros (p : Nat) : Bool := p == 4 || p == 8 || p == 14
def zshr (p : Nat) : Bool := decide (5 ≤ p) && decide (p ≤ 12)
def zcen (p : Nat) (o t : Bool) : Bool := if 15 ≤ p then p == 15 else !o && !(t && p == 8)
def zcm (own other from_ m : Nat) : Bool := decide (0 < m) && decide (0 < dg own from_) && zcen (from_ + m) (decide (0 < dg own (from_ + m))) (decide (0 < dg other (from_ + m)))
def ztk (other p : Nat) : Bool := zshr p && decide (0 < dg other p)
def zsh (n a b : Nat) : Nat := n - 16 ^ a + 16 ^ b
def zhome (n : Nat) : Bool := n % 2 ^ 60 == 0
def ztm (m : Nat) : Nat := if m = 0 then 1 else if m = 1 then 4 else if m = 2 then 6 else if m = 3 then 4 else if m = 4 then 1 else 0
theorem lN_home {n : Nat} (hn : n < 2 ^ 63) : lN n &&& 1152921504606846975 = lN (n % 2 ^ 60) := wb_mask (k := 60) (by omega) (by decide)
theorem lN_pw {a : Nat} (ha : a ≤ 15) : (1 : Int64) <<< ((nI (4 * a)).toInt64 &&& 63) = lN (16 ^ a) := by
  rw [show (16 : Nat) ^ a = 1 * 2 ^ (4 * a) by rw [Nat.pow_mul, Nat.one_mul]]
  exact wb_shl 1 (k := 4 * a) (by omega)
theorem lN_sh {n a b : Nat} (h : 16 ^ a ≤ n) : lN n - lN (16 ^ a) + lN (16 ^ b) = lN (zsh n a b) := by
  rw [lN_sub h, lN_add]
  rfl
end
section
theorem zin_1 {v lo hi : Int32} (h2 : ¬ v < lo) (h7 : ¬ hi < v) : (decide (lo ≤ v) && decide (v ≤ hi)) = true := by
  rw [decide_eq_true (Int32.not_lt.mp h2), decide_eq_true (Int32.not_lt.mp h7)]; rfl
theorem zin_0a {v lo hi : Int32} (h2 : v < lo) : (decide (lo ≤ v) && decide (v ≤ hi)) = false := by
  rw [decide_eq_false (Int32.not_le.mpr h2)]; rfl
theorem zin_0b {v lo hi : Int32} (_ : ¬ v < lo) (h7 : hi < v) : (decide (lo ≤ v) && decide (v ≤ hi)) = false := by
  rw [decide_eq_false (p := v ≤ hi) (Int32.not_le.mpr h7), Bool.and_false]
/-- the marks that were told, or none -/
def zmk (mk : Int32) (mm : Nat) : Prop := mk = nI mm ∨ (mk = -1 ∧ mm = 0)
theorem zmk_le {mk : Int32} {mm : Nat} (h : zmk mk mm) (hm : mm ≤ 4) (c : mk ≤ 0) : mm = 0 := by
  rcases h with h | h
  · rw [h] at c
    have := (nI_leI (a := mm) (b := 0) (by omega) (by omega)).mp c
    omega
  · exact h.2
theorem zmk_gt {mk : Int32} {mm : Nat} (h : zmk mk mm) (c : ¬ mk ≤ 0) : 0 < mm := by
  rcases h with h | h
  · rcases Nat.eq_zero_or_pos mm with e | e
    · rw [h, e] at c; exact absurd (by decide) c
    · exact e
  · rw [h.1] at c; exact absurd (by decide) c
theorem zmk_eq {mk : Int32} {mm : Nat} (h : zmk mk mm) (c : 0 < mm) : mk = nI mm := by
  rcases h with h | h
  · exact h
  · omega
theorem zcm_c {own oth fr mm : Nat} {a b : Bool} (h0 : 0 < mm) (h1 : 0 < dg own fr) (ha : 0 < dg own (fr + mm) ↔ a = true) (hb : 0 < dg oth (fr + mm) ↔ b = true) : zcen (fr + mm) a b = zcm own oth fr mm := by
  have e1 : decide (0 < dg own (fr + mm)) = a := by cases a <;> simp_all
  have e2 : decide (0 < dg oth (fr + mm)) = b := by cases b <;> simp_all
  rw [zcm, e1, e2, decide_eq_true h0, decide_eq_true h1]
  rfl
abbrev zG0 : va_G := (fun _ => 0, fun _ _ => 0)
set_option maxHeartbeats 4000000 in
set_option maxRecDepth 100000 in
theorem c_X4_isRosette (l : Launch) (pl : Nat) (hp : pl < 1000)  : Met l yX4_isRosette wsX4_isRosette ({ frames := 0, cells := 0, slots := 0, locals := 0 }) (va_Pc [.int (nI pl)] (fun _ => True)) (va_Qi (fun (r : Int32) (_ : Unit) => r = bI (zros pl)) (fun _ _ => True) zF) 0 0 zF := by
  refine Met.ofW (cc := cX4_isRosette) (maxL := 1) (ret := (some .boolean)) (by decide) rfl ?_
  intro p e s m args below meth c s₁ B hml hv
  obtain ⟨rfl, -⟩ := hv
  have hx := B.exec
  have hb := B.bytes
  have hr := B.returns
  have hts := atoms_spec (ws := wsX4_isRosette) B.pre
  have hown : s.vm.findClass RX4 = some m.cls := findClass_of_methodNamed B.named
  have hlocks := B.notSynchronized
  have hl := lv_entry ([.int (nI pl)]) (n := 1) (Nat.le_of_ble_eq_true rfl)
  rw [lg_entry_eq]
  generalize (lg_sl ([.int (nI pl)]) ++ List.replicate (1 - (lg_sl ([.int (nI pl)])).length) Slot.unset).toArray = ls at hl ⊢
  have hl : lv_has ls 1 [(0, .int (nI pl))] := hl
  have hP : va_P zG0 [] [] s.heap := fun k q h => by simp at h
  have hS : va_S zF s.heap s.heap [] := va_S.rf
  refine lv_iload_n hx hb dX4_isRosette_0 rfl (lv_at hl 0 rfl) ?_
  refine lv_iconst (v := 4) hx hb dX4_isRosette_1 (by decide) ?_
  refine lv_icmp_eq (tgt := 17) hx hb dX4_isRosette_2 (by decide) (fun c_2 => ?_) (fun c_2 => ?_)
  · skip
    have c_2 : pl = 4 := (nI_eq (a := pl) (b := 4) (by omega) (by omega)).mp c_2
    refine lv_iconst (v := 1) hx hb dX4_isRosette_17 (by decide) ?_
    refine lv_goto (tgt := 22) hx hb dX4_isRosette_18 (by decide) ?_
    exact W.zret (v := 1) hx hb hr rfl (fun t ht hW => ⟨⟨_, (), rfl, (bI_t (by simp [zros, c_2] <;> omega)), trivial⟩, hS.F ht⟩) hS.2.2 dX4_isRosette_22
  · skip
    have c_2 : ¬ pl = 4 := fun h9 => c_2 ((nI_eq (a := pl) (b := 4) (by omega) (by omega)).mpr h9)
    refine lv_iload_n hx hb dX4_isRosette_5 rfl (lv_at hl 0 rfl) ?_
    refine lv_bipush (v := 8) hx hb dX4_isRosette_6 (by decide) ?_
    refine lv_icmp_eq (tgt := 17) hx hb dX4_isRosette_8 (by decide) (fun c_8 => ?_) (fun c_8 => ?_)
    · skip
      have c_8 : pl = 8 := (nI_eq (a := pl) (b := 8) (by omega) (by omega)).mp c_8
      refine lv_iconst (v := 1) hx hb dX4_isRosette_17 (by decide) ?_
      refine lv_goto (tgt := 22) hx hb dX4_isRosette_18 (by decide) ?_
      exact W.zret (v := 1) hx hb hr rfl (fun t ht hW => ⟨⟨_, (), rfl, (bI_t (by simp [zros, c_2, c_8] <;> omega)), trivial⟩, hS.F ht⟩) hS.2.2 dX4_isRosette_22
    · skip
      have c_8 : ¬ pl = 8 := fun h9 => c_8 ((nI_eq (a := pl) (b := 8) (by omega) (by omega)).mpr h9)
      refine lv_iload_n hx hb dX4_isRosette_11 rfl (lv_at hl 0 rfl) ?_
      refine lv_bipush (v := 14) hx hb dX4_isRosette_12 (by decide) ?_
      refine lv_icmp_ne (tgt := 21) hx hb dX4_isRosette_14 (by decide) (fun c_14 => ?_) (fun c_14 => ?_)
      · skip
        have c_14 : ¬ pl = 14 := fun h9 => c_14 ((nI_eq (a := pl) (b := 14) (by omega) (by omega)).mpr h9)
        refine lv_iconst (v := 0) hx hb dX4_isRosette_21 (by decide) ?_
        exact W.zret (v := 0) hx hb hr rfl (fun t ht hW => ⟨⟨_, (), rfl, (bI_f (by simp [zros, c_2, c_8, c_14] <;> omega)), trivial⟩, hS.F ht⟩) hS.2.2 dX4_isRosette_22
      · skip
        have c_14 : pl = 14 := (nI_eq (a := pl) (b := 14) (by omega) (by omega)).mp c_14
        refine lv_iconst (v := 1) hx hb dX4_isRosette_17 (by decide) ?_
        refine lv_goto (tgt := 22) hx hb dX4_isRosette_18 (by decide) ?_
        exact W.zret (v := 1) hx hb hr rfl (fun t ht hW => ⟨⟨_, (), rfl, (bI_t (by simp [zros, c_2, c_8, c_14] <;> omega)), trivial⟩, hS.F ht⟩) hS.2.2 dX4_isRosette_22

set_option maxHeartbeats 4000000 in
set_option maxRecDepth 100000 in
theorem c_X4_isShared (l : Launch) (pl : Nat) (hp : pl < 1000)  : Met l yX4_isShared wsX4_isShared ({ frames := 0, cells := 0, slots := 0, locals := 0 }) (va_Pc [.int (nI pl)] (fun _ => True)) (va_Qi (fun (r : Int32) (_ : Unit) => r = bI (zshr pl)) (fun _ _ => True) zF) 0 0 zF := by
  refine Met.ofW (cc := cX4_isShared) (maxL := 1) (ret := (some .boolean)) (by decide) rfl ?_
  intro p e s m args below meth c s₁ B hml hv
  obtain ⟨rfl, -⟩ := hv
  have hx := B.exec
  have hb := B.bytes
  have hr := B.returns
  have hts := atoms_spec (ws := wsX4_isShared) B.pre
  have hown : s.vm.findClass RX4 = some m.cls := findClass_of_methodNamed B.named
  have hlocks := B.notSynchronized
  have hl := lv_entry ([.int (nI pl)]) (n := 1) (Nat.le_of_ble_eq_true rfl)
  rw [lg_entry_eq]
  generalize (lg_sl ([.int (nI pl)]) ++ List.replicate (1 - (lg_sl ([.int (nI pl)])).length) Slot.unset).toArray = ls at hl ⊢
  have hl : lv_has ls 1 [(0, .int (nI pl))] := hl
  have hP : va_P zG0 [] [] s.heap := fun k q h => by simp at h
  have hS : va_S zF s.heap s.heap [] := va_S.rf
  refine lv_iload_n hx hb dX4_isShared_0 rfl (lv_at hl 0 rfl) ?_
  refine lv_iconst (v := 5) hx hb dX4_isShared_1 (by decide) ?_
  refine lv_icmp_lt (tgt := 15) hx hb dX4_isShared_2 (by decide) (fun c_2 => ?_) (fun c_2 => ?_)
  · skip
    have c_2 : pl < 5 := (nI_ltI (a := pl) (b := 5) (by omega) (by omega)).mp c_2
    refine lv_iconst (v := 0) hx hb dX4_isShared_15 (by decide) ?_
    exact W.zret (v := 0) hx hb hr rfl (fun t ht hW => ⟨⟨_, (), rfl, (bI_f (by simp [zshr, c_2] <;> omega)), trivial⟩, hS.F ht⟩) hS.2.2 dX4_isShared_16
  · skip
    have c_2 : ¬ pl < 5 := fun h9 => c_2 ((nI_ltI (a := pl) (b := 5) (by omega) (by omega)).mpr h9)
    refine lv_iload_n hx hb dX4_isShared_5 rfl (lv_at hl 0 rfl) ?_
    refine lv_bipush (v := 12) hx hb dX4_isShared_6 (by decide) ?_
    refine lv_icmp_gt (tgt := 15) hx hb dX4_isShared_8 (by decide) (fun c_8 => ?_) (fun c_8 => ?_)
    · skip
      have c_8 : 12 < pl := (nI_ltI (a := 12) (b := pl) (by omega) (by omega)).mp c_8
      refine lv_iconst (v := 0) hx hb dX4_isShared_15 (by decide) ?_
      exact W.zret (v := 0) hx hb hr rfl (fun t ht hW => ⟨⟨_, (), rfl, (bI_f (by simp [zshr, c_2, c_8] <;> omega)), trivial⟩, hS.F ht⟩) hS.2.2 dX4_isShared_16
    · skip
      have c_8 : ¬ 12 < pl := fun h9 => c_8 ((nI_ltI (a := 12) (b := pl) (by omega) (by omega)).mpr h9)
      refine lv_iconst (v := 1) hx hb dX4_isShared_11 (by decide) ?_
      refine lv_goto (tgt := 16) hx hb dX4_isShared_12 (by decide) ?_
      exact W.zret (v := 1) hx hb hr rfl (fun t ht hW => ⟨⟨_, (), rfl, (bI_t (by simp [zshr, c_2, c_8] <;> omega)), trivial⟩, hS.F ht⟩) hS.2.2 dX4_isShared_16

set_option maxHeartbeats 4000000 in
set_option maxRecDepth 100000 in
theorem c_X4_canEnter (l : Launch) (pl : Nat) (hp : pl < 1000) (ob tb : Bool)  : Met l yX4_canEnter wsX4_canEnter ({ frames := 0, cells := 0, slots := 0, locals := 0 }) (va_Pc [.int (nI pl), .int (bI ob), .int (bI tb)] (fun _ => True)) (va_Qi (fun (r : Int32) (_ : Unit) => r = bI (zcen pl ob tb)) (fun _ _ => True) zF) 0 0 zF := by
  refine Met.ofW (cc := cX4_canEnter) (maxL := 3) (ret := (some .boolean)) (by decide) rfl ?_
  intro p e s m args below meth c s₁ B hml hv
  obtain ⟨rfl, -⟩ := hv
  have hx := B.exec
  have hb := B.bytes
  have hr := B.returns
  have hts := atoms_spec (ws := wsX4_canEnter) B.pre
  have hown : s.vm.findClass RX4 = some m.cls := findClass_of_methodNamed B.named
  have hlocks := B.notSynchronized
  have hl := lv_entry ([.int (nI pl), .int (bI ob), .int (bI tb)]) (n := 3) (Nat.le_of_ble_eq_true rfl)
  rw [lg_entry_eq]
  generalize (lg_sl ([.int (nI pl), .int (bI ob), .int (bI tb)]) ++ List.replicate (3 - (lg_sl ([.int (nI pl), .int (bI ob), .int (bI tb)])).length) Slot.unset).toArray = ls at hl ⊢
  have hl : lv_has ls 3 [(0, .int (nI pl)), (1, .int (bI ob)), (2, .int (bI tb))] := hl
  have hP : va_P zG0 [] [] s.heap := fun k q h => by simp at h
  have hS : va_S zF s.heap s.heap [] := va_S.rf
  refine lv_iload_n hx hb dX4_canEnter_0 rfl (lv_at hl 0 rfl) ?_
  refine lv_bipush (v := 15) hx hb dX4_canEnter_1 (by decide) ?_
  refine lv_icmp_lt (tgt := 18) hx hb dX4_canEnter_3 (by decide) (fun c_3 => ?_) (fun c_3 => ?_)
  · skip
    have c_3 : pl < 15 := (nI_ltI (a := pl) (b := 15) (by omega) (by omega)).mp c_3
    refine lv_iload_n hx hb dX4_canEnter_18 rfl (lv_at hl 1 rfl) ?_
    refine lv_if_ne (tgt := 36) hx hb dX4_canEnter_19 (by decide) (fun c_19 => ?_) (fun c_19 => ?_)
    · skip
      have c_19 := bI_1.mp c_19
      refine lv_iconst (v := 0) hx hb dX4_canEnter_36 (by decide) ?_
      exact W.zret (v := 0) hx hb hr rfl (fun t ht hW => ⟨⟨_, (), rfl, (bI_f (by simp [zcen, c_3, c_19] <;> omega)), trivial⟩, hS.F ht⟩) hS.2.2 dX4_canEnter_37
    · skip
      have c_19 := bI_0.mp c_19
      refine lv_iload_n hx hb dX4_canEnter_22 rfl (lv_at hl 2 rfl) ?_
      refine lv_if_eq (tgt := 32) hx hb dX4_canEnter_23 (by decide) (fun c_23 => ?_) (fun c_23 => ?_)
      · skip
        have c_23 := bI_0.mp c_23
        refine lv_iconst (v := 1) hx hb dX4_canEnter_32 (by decide) ?_
        refine lv_goto (tgt := 37) hx hb dX4_canEnter_33 (by decide) ?_
        exact W.zret (v := 1) hx hb hr rfl (fun t ht hW => ⟨⟨_, (), rfl, (bI_t (by simp [zcen, c_3, c_19, c_23] <;> omega)), trivial⟩, hS.F ht⟩) hS.2.2 dX4_canEnter_37
      · skip
        have c_23 := bI_1.mp c_23
        refine lv_iload_n hx hb dX4_canEnter_26 rfl (lv_at hl 0 rfl) ?_
        refine lv_bipush (v := 8) hx hb dX4_canEnter_27 (by decide) ?_
        refine lv_icmp_eq (tgt := 36) hx hb dX4_canEnter_29 (by decide) (fun c_29 => ?_) (fun c_29 => ?_)
        · skip
          have c_29 : pl = 8 := (nI_eq (a := pl) (b := 8) (by omega) (by omega)).mp c_29
          refine lv_iconst (v := 0) hx hb dX4_canEnter_36 (by decide) ?_
          exact W.zret (v := 0) hx hb hr rfl (fun t ht hW => ⟨⟨_, (), rfl, (bI_f (by simp [zcen, c_3, c_19, c_23, c_29] <;> omega)), trivial⟩, hS.F ht⟩) hS.2.2 dX4_canEnter_37
        · skip
          have c_29 : ¬ pl = 8 := fun h9 => c_29 ((nI_eq (a := pl) (b := 8) (by omega) (by omega)).mpr h9)
          refine lv_iconst (v := 1) hx hb dX4_canEnter_32 (by decide) ?_
          refine lv_goto (tgt := 37) hx hb dX4_canEnter_33 (by decide) ?_
          exact W.zret (v := 1) hx hb hr rfl (fun t ht hW => ⟨⟨_, (), rfl, (bI_t (by simp [zcen, c_3, c_19, c_23, c_29] <;> omega)), trivial⟩, hS.F ht⟩) hS.2.2 dX4_canEnter_37
  · skip
    have c_3 : ¬ pl < 15 := fun h9 => c_3 ((nI_ltI (a := pl) (b := 15) (by omega) (by omega)).mpr h9)
    refine lv_iload_n hx hb dX4_canEnter_6 rfl (lv_at hl 0 rfl) ?_
    refine lv_bipush (v := 15) hx hb dX4_canEnter_7 (by decide) ?_
    refine lv_icmp_ne (tgt := 16) hx hb dX4_canEnter_9 (by decide) (fun c_9 => ?_) (fun c_9 => ?_)
    · skip
      have c_9 : ¬ pl = 15 := fun h9 => c_9 ((nI_eq (a := pl) (b := 15) (by omega) (by omega)).mpr h9)
      refine lv_iconst (v := 0) hx hb dX4_canEnter_16 (by decide) ?_
      exact W.zret (v := 0) hx hb hr rfl (fun t ht hW => ⟨⟨_, (), rfl, (bI_f (by simp [zcen, c_3, c_9] <;> omega)), trivial⟩, hS.F ht⟩) hS.2.2 dX4_canEnter_17
    · skip
      have c_9 : pl = 15 := (nI_eq (a := pl) (b := 15) (by omega) (by omega)).mp c_9
      refine lv_iconst (v := 1) hx hb dX4_canEnter_12 (by decide) ?_
      refine lv_goto (tgt := 17) hx hb dX4_canEnter_13 (by decide) ?_
      exact W.zret (v := 1) hx hb hr rfl (fun t ht hW => ⟨⟨_, (), rfl, (bI_t (by simp [zcen, c_3, c_9] <;> omega)), trivial⟩, hS.F ht⟩) hS.2.2 dX4_canEnter_17

set_option maxHeartbeats 4000000 in
set_option maxRecDepth 100000 in
theorem c_X6_in (l : Launch) (v lo hi : Int32)  : Met l yX6_in wsX6_in ({ frames := 0, cells := 0, slots := 0, locals := 0 }) (va_Pc [.int v, .int lo, .int hi] (fun _ => True)) (va_Qi (fun (r : Int32) (_ : Unit) => r = bI (decide (lo ≤ v) && decide (v ≤ hi))) (fun _ _ => True) zF) 0 0 zF := by
  refine Met.ofW (cc := cX6_in) (maxL := 3) (ret := (some .boolean)) (by decide) rfl ?_
  intro p e s m args below meth c s₁ B hml hv
  obtain ⟨rfl, -⟩ := hv
  have hx := B.exec
  have hb := B.bytes
  have hr := B.returns
  have hts := atoms_spec (ws := wsX6_in) B.pre
  have hown : s.vm.findClass RX6 = some m.cls := findClass_of_methodNamed B.named
  have hlocks := B.notSynchronized
  have hl := lv_entry ([.int v, .int lo, .int hi]) (n := 3) (Nat.le_of_ble_eq_true rfl)
  rw [lg_entry_eq]
  generalize (lg_sl ([.int v, .int lo, .int hi]) ++ List.replicate (3 - (lg_sl ([.int v, .int lo, .int hi])).length) Slot.unset).toArray = ls at hl ⊢
  have hl : lv_has ls 3 [(0, .int v), (1, .int lo), (2, .int hi)] := hl
  have hP : va_P zG0 [] [] s.heap := fun k q h => by simp at h
  have hS : va_S zF s.heap s.heap [] := va_S.rf
  refine lv_iload_n hx hb dX6_in_0 rfl (lv_at hl 0 rfl) ?_
  refine lv_iload_n hx hb dX6_in_1 rfl (lv_at hl 1 rfl) ?_
  refine lv_icmp_lt (tgt := 14) hx hb dX6_in_2 (by decide) (fun c_2 => ?_) (fun c_2 => ?_)
  · skip
    refine lv_iconst (v := 0) hx hb dX6_in_14 (by decide) ?_
    exact W.zret (v := 0) hx hb hr rfl (fun t ht hW => ⟨⟨_, (), rfl, (bI_f (zin_0a c_2)), trivial⟩, hS.F ht⟩) hS.2.2 dX6_in_15
  · skip
    refine lv_iload_n hx hb dX6_in_5 rfl (lv_at hl 0 rfl) ?_
    refine lv_iload_n hx hb dX6_in_6 rfl (lv_at hl 2 rfl) ?_
    refine lv_icmp_gt (tgt := 14) hx hb dX6_in_7 (by decide) (fun c_7 => ?_) (fun c_7 => ?_)
    · skip
      refine lv_iconst (v := 0) hx hb dX6_in_14 (by decide) ?_
      exact W.zret (v := 0) hx hb hr rfl (fun t ht hW => ⟨⟨_, (), rfl, (bI_f (zin_0b c_2 c_7)), trivial⟩, hS.F ht⟩) hS.2.2 dX6_in_15
    · skip
      refine lv_iconst (v := 1) hx hb dX6_in_10 (by decide) ?_
      refine lv_goto (tgt := 15) hx hb dX6_in_11 (by decide) ?_
      exact W.zret (v := 1) hx hb hr rfl (fun t ht hW => ⟨⟨_, (), rfl, (bI_t (zin_1 c_2 c_7)), trivial⟩, hS.F ht⟩) hS.2.2 dX6_in_15

set_option maxHeartbeats 4000000 in
set_option maxRecDepth 100000 in
theorem c_X2_allAtStart (l : Launch) (k : Nat) (hk : k < 1000)  : Met l yX2_allAtStart wsX2_allAtStart ({ frames := 0, cells := 0, slots := 0, locals := 0 }) (va_Pc [.int (nI k)] (fun _ => True)) (va_Ql (fun (r : Int64) (_ : Unit) => r = lN k) (fun _ _ => True) zF) 0 0 zF := by
  refine Met.ofW (cc := cX2_allAtStart) (maxL := 1) (ret := (some .long)) (by decide) rfl ?_
  intro p e s m args below meth c s₁ B hml hv
  obtain ⟨rfl, -⟩ := hv
  have hx := B.exec
  have hb := B.bytes
  have hr := B.returns
  have hts := atoms_spec (ws := wsX2_allAtStart) B.pre
  have hown : s.vm.findClass RX2 = some m.cls := findClass_of_methodNamed B.named
  have hlocks := B.notSynchronized
  have hl := lv_entry ([.int (nI k)]) (n := 1) (Nat.le_of_ble_eq_true rfl)
  rw [lg_entry_eq]
  generalize (lg_sl ([.int (nI k)]) ++ List.replicate (1 - (lg_sl ([.int (nI k)])).length) Slot.unset).toArray = ls at hl ⊢
  have hl : lv_has ls 1 [(0, .int (nI k))] := hl
  have hP : va_P zG0 [] [] s.heap := fun k q h => by simp at h
  have hS : va_S zF s.heap s.heap [] := va_S.rf
  refine lv_iload_n hx hb dX2_allAtStart_0 rfl (lv_at hl 0 rfl) ?_
  refine lv_i2l (v := (nI k : Int32).toInt64) hx hb dX2_allAtStart_1 rfl ?_
  exact W.lret (v := (nI k : Int32).toInt64) hx hb hr (fun t ht hW => ⟨⟨_, (), rfl, (nI_l (by omega)), trivial⟩, hS.F ht⟩) hS.2.2 dX2_allAtStart_2

set_option maxHeartbeats 4000000 in
set_option maxRecDepth 100000 in
theorem c_X2_countAt (l : Launch) (n : Nat) (hn : n < 2 ^ 63) (pl : Nat) (hp : pl < 1000)  : Met l yX2_countAt wsX2_countAt ({ frames := 0, cells := 0, slots := 0, locals := 0 }) (va_Pc [.long (lN n), .int (nI pl)] (fun _ => True)) (va_Qi (fun (r : Int32) (_ : Unit) => r = nI (dg n pl)) (fun _ _ => True) zF) 0 0 zF := by
  refine Met.ofW (cc := cX2_countAt) (maxL := 3) (ret := (some .int)) (by decide) rfl ?_
  intro p e s m args below meth c s₁ B hml hv
  obtain ⟨rfl, -⟩ := hv
  have hx := B.exec
  have hb := B.bytes
  have hr := B.returns
  have hts := atoms_spec (ws := wsX2_countAt) B.pre
  have hown : s.vm.findClass RX2 = some m.cls := findClass_of_methodNamed B.named
  have hlocks := B.notSynchronized
  have hl := lv_entry ([.long (lN n), .int (nI pl)]) (n := 3) (Nat.le_of_ble_eq_true rfl)
  rw [lg_entry_eq]
  generalize (lg_sl ([.long (lN n), .int (nI pl)]) ++ List.replicate (3 - (lg_sl ([.long (lN n), .int (nI pl)])).length) Slot.unset).toArray = ls at hl ⊢
  have hl : lv_has ls 3 [(0, .long (lN n)), (2, .int (nI pl))] := hl
  have hP : va_P zG0 [] [] s.heap := fun k q h => by simp at h
  have hS : va_S zF s.heap s.heap [] := va_S.rf
  refine lv_iload_n hx hb dX2_countAt_0 rfl (lv_at hl 1 rfl) ?_
  refine lv_if_lt (tgt := 10) hx hb dX2_countAt_1 (by decide) (fun c_1 => ?_) (fun c_1 => ?_)
  · skip
    have c_1 : pl < 0 := (nI_ltI (a := pl) (b := 0) (by omega) (by omega)).mp c_1
    refine lv_iconst (v := 0) hx hb dX2_countAt_10 (by decide) ?_
    refine lv_goto (tgt := 23) hx hb dX2_countAt_11 (by decide) ?_
    exact W.iret (v := 0) hx hb hr (fun t ht hW => ⟨⟨_, (), rfl, (by rw [dg_big hn (by omega)]; rfl), trivial⟩, hS.F ht⟩) hS.2.2 dX2_countAt_23
  · skip
    have c_1 : ¬ pl < 0 := fun h9 => c_1 ((nI_ltI (a := pl) (b := 0) (by omega) (by omega)).mpr h9)
    refine lv_iload_n hx hb dX2_countAt_4 rfl (lv_at hl 1 rfl) ?_
    refine lv_bipush (v := 15) hx hb dX2_countAt_5 (by decide) ?_
    refine lv_icmp_le (tgt := 14) hx hb dX2_countAt_7 (by decide) (fun c_7 => ?_) (fun c_7 => ?_)
    · skip
      have c_7 : pl ≤ 15 := (nI_leI (a := pl) (b := 15) (by omega) (by omega)).mp c_7
      refine lv_lload_n hx hb dX2_countAt_14 rfl (lv_at hl 0 rfl) ?_
      refine lv_iconst (v := 4) hx hb dX2_countAt_15 (by decide) ?_
      refine lv_iload_n hx hb dX2_countAt_16 rfl (lv_at hl 1 rfl) ?_
      refine lv_imul hx hb dX2_countAt_17 ?_
      refine zz_i (y := nI (4 * pl)) (pk_mul 4 pl) ?_
      refine lv_lushr (v := ((lN n).toUInt64 >>> ((nI (4 * pl) : Int32).toInt64.toUInt64 &&& Int64.toUInt64 63)).toInt64) hx hb dX2_countAt_18 rfl ?_
      refine zz_l (y := lN (n / 2 ^ (4 * pl))) (wb_shr (by omega) (by omega)) ?_
      refine lv_l2i (v := (lN (n / 2 ^ (4 * pl)) : Int64).toInt32) hx hb dX2_countAt_19 rfl ?_
      refine zz_i (y := nI (n / 2 ^ (4 * pl))) (lN_i _) ?_
      refine lv_bipush (v := 15) hx hb dX2_countAt_20 (by decide) ?_
      refine lv_iand hx hb dX2_countAt_22 ?_
      refine zz_i (y := nI (dg n pl)) (zcnt n pl) ?_
      exact W.iret (v := nI (dg n pl)) hx hb hr (fun t ht hW => ⟨⟨_, (), rfl, rfl, trivial⟩, hS.F ht⟩) hS.2.2 dX2_countAt_23
    · skip
      have c_7 : ¬ pl ≤ 15 := fun h9 => c_7 ((nI_leI (a := pl) (b := 15) (by omega) (by omega)).mpr h9)
      refine lv_iconst (v := 0) hx hb dX2_countAt_10 (by decide) ?_
      refine lv_goto (tgt := 23) hx hb dX2_countAt_11 (by decide) ?_
      exact W.iret (v := 0) hx hb hr (fun t ht hW => ⟨⟨_, (), rfl, (by rw [dg_big hn (by omega)]; rfl), trivial⟩, hS.F ht⟩) hS.2.2 dX2_countAt_23

set_option maxHeartbeats 4000000 in
set_option maxRecDepth 100000 in
theorem c_X2_shifted (l : Launch) (n : Nat) (hn : n < 2 ^ 63) (a b : Nat) (ha : a ≤ 15) (hb0 : b ≤ 15) (hs : 16 ^ a ≤ n)  : Met l yX2_shifted wsX2_shifted ({ frames := 0, cells := 0, slots := 0, locals := 0 }) (va_Pc [.long (lN n), .int (nI a), .int (nI b)] (fun _ => True)) (va_Ql (fun (r : Int64) (_ : Unit) => r = lN (zsh n a b)) (fun _ _ => True) zF) 0 0 zF := by
  refine Met.ofW (cc := cX2_shifted) (maxL := 4) (ret := (some .long)) (by decide) rfl ?_
  intro p e s m args below meth c s₁ B hml hv
  obtain ⟨rfl, -⟩ := hv
  have hx := B.exec
  have hb := B.bytes
  have hr := B.returns
  have hts := atoms_spec (ws := wsX2_shifted) B.pre
  have hown : s.vm.findClass RX2 = some m.cls := findClass_of_methodNamed B.named
  have hlocks := B.notSynchronized
  have hl := lv_entry ([.long (lN n), .int (nI a), .int (nI b)]) (n := 4) (Nat.le_of_ble_eq_true rfl)
  rw [lg_entry_eq]
  generalize (lg_sl ([.long (lN n), .int (nI a), .int (nI b)]) ++ List.replicate (4 - (lg_sl ([.long (lN n), .int (nI a), .int (nI b)])).length) Slot.unset).toArray = ls at hl ⊢
  have hl : lv_has ls 4 [(0, .long (lN n)), (2, .int (nI a)), (3, .int (nI b))] := hl
  have hP : va_P zG0 [] [] s.heap := fun k q h => by simp at h
  have hS : va_S zF s.heap s.heap [] := va_S.rf
  refine lv_lload_n hx hb dX2_shifted_0 rfl (lv_at hl 0 rfl) ?_
  refine lv_lconst (v := 1) hx hb dX2_shifted_1 (by decide) ?_
  refine lv_iconst (v := 4) hx hb dX2_shifted_2 (by decide) ?_
  refine lv_iload_n hx hb dX2_shifted_3 rfl (lv_at hl 1 rfl) ?_
  refine lv_imul hx hb dX2_shifted_4 ?_
  refine zz_i (y := nI (4 * a)) (pk_mul 4 a) ?_
  refine lv_lshl (v := 1 <<< ((nI (4 * a) : Int32).toInt64 &&& 63)) hx hb dX2_shifted_5 rfl ?_
  refine zz_l (y := lN (16 ^ a)) (lN_pw ha) ?_
  refine lv_lsub hx hb dX2_shifted_6 ?_
  refine lv_lconst (v := 1) hx hb dX2_shifted_7 (by decide) ?_
  refine lv_iconst (v := 4) hx hb dX2_shifted_8 (by decide) ?_
  refine lv_iload_n hx hb dX2_shifted_9 rfl (lv_at hl 2 rfl) ?_
  refine lv_imul hx hb dX2_shifted_10 ?_
  refine zz_i (y := nI (4 * b)) (pk_mul 4 b) ?_
  refine lv_lshl (v := 1 <<< ((nI (4 * b) : Int32).toInt64 &&& 63)) hx hb dX2_shifted_11 rfl ?_
  refine zz_l (y := lN (16 ^ b)) (lN_pw hb0) ?_
  refine lv_ladd hx hb dX2_shifted_12 ?_
  exact W.lret (v := ((lN n) - (lN (16 ^ a))) + (lN (16 ^ b))) hx hb hr (fun t ht hW => ⟨⟨_, (), rfl, (lN_sh hs), trivial⟩, hS.F ht⟩) hS.2.2 dX2_shifted_13

set_option maxHeartbeats 4000000 in
set_option maxRecDepth 100000 in
theorem c_X2_isAllHome (l : Launch) (n : Nat) (hn : n < 2 ^ 63)  : Met l yX2_isAllHome wsX2_isAllHome ({ frames := 0, cells := 0, slots := 0, locals := 0 }) (va_Pc [.long (lN n)] (fun _ => True)) (va_Qi (fun (r : Int32) (_ : Unit) => r = bI (zhome n)) (fun _ _ => True) zF) 0 0 zF := by
  refine Met.ofW (cc := cX2_isAllHome) (maxL := 2) (ret := (some .boolean)) (by decide) rfl ?_
  intro p e s m args below meth c s₁ B hml hv
  obtain ⟨rfl, -⟩ := hv
  have hx := B.exec
  have hb := B.bytes
  have hr := B.returns
  have hts := atoms_spec (ws := wsX2_isAllHome) B.pre
  have hown : s.vm.findClass RX2 = some m.cls := findClass_of_methodNamed B.named
  have hlocks := B.notSynchronized
  have hl := lv_entry ([.long (lN n)]) (n := 2) (Nat.le_of_ble_eq_true rfl)
  rw [lg_entry_eq]
  generalize (lg_sl ([.long (lN n)]) ++ List.replicate (2 - (lg_sl ([.long (lN n)])).length) Slot.unset).toArray = ls at hl ⊢
  have hl : lv_has ls 2 [(0, .long (lN n))] := hl
  have hP : va_P zG0 [] [] s.heap := fun k q h => by simp at h
  have hS : va_S zF s.heap s.heap [] := va_S.rf
  refine lv_lload_n hx hb dX2_isAllHome_0 rfl (lv_at hl 0 rfl) ?_
  refine lv_ldc2 (v := 1152921504606846975) hx hb hown (hts (.constantLong RX2 11 (1152921504606846975)) (List.mem_of_getElem? (i := 1) rfl)) dX2_isAllHome_1 ?_
  refine lv_land hx hb dX2_isAllHome_4 ?_
  refine zz_l (y := lN (n % 2 ^ 60)) (lN_home hn) ?_
  refine lv_lconst (v := 0) hx hb dX2_isAllHome_5 (by decide) ?_
  refine W.lcmp hx hb dX2_isAllHome_6 ?_
  refine lv_if_ne (tgt := 14) hx hb dX2_isAllHome_7 (by decide) (fun c_7 => ?_) (fun c_7 => ?_)
  · skip
    have c_7 : ¬ n % 2 ^ 60 = 0 := fun h9 => c_7 ((lg_cmp_eq _ _).mpr (by rw [h9]; rfl))
    refine lv_iconst (v := 0) hx hb dX2_isAllHome_14 (by decide) ?_
    exact W.zret (v := 0) hx hb hr rfl (fun t ht hW => ⟨⟨_, (), rfl, (bI_f (by simp [zhome, c_7] <;> omega)), trivial⟩, hS.F ht⟩) hS.2.2 dX2_isAllHome_15
  · skip
    have c_7 : n % 2 ^ 60 = 0 := (pk_lEQ (a := n % 2 ^ 60) (b := 0) (by omega) (by omega)).mp ((lg_cmp_eq _ _).mp c_7)
    refine lv_iconst (v := 1) hx hb dX2_isAllHome_10 (by decide) ?_
    refine lv_goto (tgt := 15) hx hb dX2_isAllHome_11 (by decide) ?_
    exact W.zret (v := 1) hx hb hr rfl (fun t ht hW => ⟨⟨_, (), rfl, (bI_t (by simp [zhome, c_7] <;> omega)), trivial⟩, hS.F ht⟩) hS.2.2 dX2_isAllHome_15

set_option maxHeartbeats 4000000 in
set_option maxRecDepth 100000 in
theorem c_X2_sumOfPlaces (l : Launch) (n : Nat) (hn : n < 2 ^ 63)  : Met l yX2_sumOfPlaces wsX2_sumOfPlaces ({ frames := 1, cells := 0, slots := 0, locals := 22 }) (va_Pc [.long (lN n)] (fun _ => True)) (va_Qi (fun (r : Int32) (_ : Unit) => r = nI (psum n 16)) (fun _ _ => True) zF) 0 0 zF := by
  refine Met.ofW (cc := cX2_sumOfPlaces) (maxL := 4) (ret := (some .int)) (by decide) rfl ?_
  intro p e s m args below meth c s₁ B hml hv
  obtain ⟨rfl, -⟩ := hv
  have hx := B.exec
  have hb := B.bytes
  have hr := B.returns
  have hts := atoms_spec (ws := wsX2_sumOfPlaces) B.pre
  have hown : s.vm.findClass RX2 = some m.cls := findClass_of_methodNamed B.named
  have hlocks := B.notSynchronized
  have hl := lv_entry ([.long (lN n)]) (n := 4) (Nat.le_of_ble_eq_true rfl)
  rw [lg_entry_eq]
  generalize (lg_sl ([.long (lN n)]) ++ List.replicate (4 - (lg_sl ([.long (lN n)])).length) Slot.unset).toArray = ls at hl ⊢
  have hl : lv_has ls 4 [(0, .long (lN n))] := hl
  have hP : va_P zG0 [] [] s.heap := fun k q h => by simp at h
  have hS : va_S zF s.heap s.heap [] := va_S.rf
  generalize hQe : MQ below _ _ _ _ _ _ = Q
  refine lv_iconst (v := 0) hx hb dX2_sumOfPlaces_0 (by decide) ?_
  refine lv_istore_n (lv' := [(2, .int 0), (0, .long (lN n))]) hx hb dX2_sumOfPlaces_1 rfl hl (by decide) rfl (fun ls hl => ?_)
  refine lv_iconst (v := 1) hx hb dX2_sumOfPlaces_2 (by decide) ?_
  refine lv_istore_n (lv' := [(3, .int 1), (2, .int 0), (0, .long (lN n))]) hx hb dX2_sumOfPlaces_3 rfl hl (by decide) rfl (fun ls hl => ?_)
  have lp : ∀ (n9 : Nat) (i : Nat) (sv : Int32), 1 ≤ i → i ≤ 16 → sv = nI (psum n i) → 16 - i < n9 → ∀ (H : Heap) (locs : List Loc), va_P zG0 [] [] H → va_S zF s.heap H locs → ∀ ls : Array Slot, lv_has ls 4 [(3, .int (nI i)), (2, .int sv), (0, .long (lN n))] → W p l e (headSpec wsX2_sumOfPlaces ({ frames := 1, cells := 0, slots := 0, locals := 22 })).room s m ([.long (lN n)] : List Value).toArray below meth c H locs 0 0 Q (F0 m 4 ls []) := by
    intro n9
    induction n9 with
    | zero => intro i sv hi1 hi2 hsv hm9; exact absurd hm9 (Nat.not_lt_zero _)
    | succ n9 ih4 =>
      intro i sv hi1 hi2 hsv hm9 H locs hP hS ls hl
      refine lv_iload_n hx hb dX2_sumOfPlaces_4 rfl (lv_at hl 0 rfl) ?_
      refine lv_bipush (v := 15) hx hb dX2_sumOfPlaces_5 (by decide) ?_
      refine lv_icmp_gt (tgt := 26) hx hb dX2_sumOfPlaces_7 (by decide) (fun c_7 => ?_) (fun c_7 => ?_)
      · skip
        have c_7 : 15 < i := (nI_ltI (a := 15) (b := i) (by omega) (by omega)).mp c_7
        refine lv_iload_n hx hb dX2_sumOfPlaces_26 rfl (lv_at hl 1 rfl) ?_
        subst hQe
        exact W.iret (v := sv) hx hb hr (fun t ht hW => ⟨⟨_, (), rfl, (by rw [hsv, show i = 16 by omega]), trivial⟩, hS.F ht⟩) hS.2.2 dX2_sumOfPlaces_27
      · skip
        have c_7 : ¬ 15 < i := fun h9 => c_7 ((nI_ltI (a := 15) (b := i) (by omega) (by omega)).mpr h9)
        refine lv_iload_n hx hb dX2_sumOfPlaces_10 rfl (lv_at hl 1 rfl) ?_
        refine lv_iload_n hx hb dX2_sumOfPlaces_11 rfl (lv_at hl 0 rfl) ?_
        refine lv_lload_n hx hb dX2_sumOfPlaces_12 rfl (lv_at hl 2 rfl) ?_
        refine lv_iload_n hx hb dX2_sumOfPlaces_13 rfl (lv_at hl 0 rfl) ?_
        refine zro_i (va_runS (As := [.long (lN n), .int (nI i)]) (rest := [.int (nI i), .int sv]) ⟨hx, hb, hml, hown, hts⟩ (c_X2_countAt l n (by omega) i (by omega)) (va_cwS 2 hts gX2_sumOfPlaces_X2_countAt rfl rfl rfl (by decide +kernel) ⟨Nat.le_of_ble_eq_true rfl, Nat.le_of_ble_eq_true rfl⟩) zPu rfl rfl hl.1 rfl (lv_room (Nat.le_of_ble_eq_true rfl)) dX2_sumOfPlaces_14 ⟨Nat.zero_le _, Nat.zero_le _⟩) hP hS (fun H locs hP hS => ?_)
        have hd_14 := dg_lt n i
        refine lv_imul hx hb dX2_sumOfPlaces_17 ?_
        refine zz_i (y := nI (i * (dg n i))) (pk_mul i (dg n i)) ?_
        refine lv_iadd hx hb dX2_sumOfPlaces_18 ?_
        refine zz_i (y := nI (psum n (i + 1))) (by rw [hsv, nI_add]; rfl) ?_
        refine lv_istore_n (lv' := [(2, .int (nI (psum n (i + 1)))), (3, .int (nI i)), (0, .long (lN n))]) hx hb dX2_sumOfPlaces_19 rfl hl (by decide) rfl (fun ls hl => ?_)
        refine lv_iinc (v := nI (i + 1)) (lv' := [(3, .int (nI (i + 1))), (2, .int (nI (psum n (i + 1)))), (0, .long (lN n))]) hx hb dX2_sumOfPlaces_20 hl (k := 1) rfl (nI_1 i) (by decide) rfl (fun ls hl => ?_)
        refine lv_goto (tgt := 4) hx hb dX2_sumOfPlaces_23 (by decide) ?_
        exact ih4 (i + 1) _ (by omega) (by omega) rfl (by omega) _ _ hP hS _ (lv_sub hl [0, 1, 2] rfl)
  exact lp 17 1 0 (by omega) (by omega) (by simp [psum]; rfl) (by omega) _ _ hP hS _ (lv_sub hl [0, 1, 2] rfl)

set_option maxHeartbeats 4000000 in
set_option maxRecDepth 100000 in
theorem c_X2_firstPlace (l : Launch) (n : Nat) (hn : n < 2 ^ 63)  : Met l yX2_firstPlace wsX2_firstPlace ({ frames := 1, cells := 0, slots := 0, locals := 22 }) (va_Pc [.long (lN n)] (fun _ => True)) (va_Qi (fun (r : Int32) (_ : Unit) => r = nI (zfs n 0 15)) (fun _ _ => True) zF) 0 0 zF := by
  refine Met.ofW (cc := cX2_firstPlace) (maxL := 3) (ret := (some .int)) (by decide) rfl ?_
  intro p e s m args below meth c s₁ B hml hv
  obtain ⟨rfl, -⟩ := hv
  have hx := B.exec
  have hb := B.bytes
  have hr := B.returns
  have hts := atoms_spec (ws := wsX2_firstPlace) B.pre
  have hown : s.vm.findClass RX2 = some m.cls := findClass_of_methodNamed B.named
  have hlocks := B.notSynchronized
  have hl := lv_entry ([.long (lN n)]) (n := 3) (Nat.le_of_ble_eq_true rfl)
  rw [lg_entry_eq]
  generalize (lg_sl ([.long (lN n)]) ++ List.replicate (3 - (lg_sl ([.long (lN n)])).length) Slot.unset).toArray = ls at hl ⊢
  have hl : lv_has ls 3 [(0, .long (lN n))] := hl
  have hP : va_P zG0 [] [] s.heap := fun k q h => by simp at h
  have hS : va_S zF s.heap s.heap [] := va_S.rf
  generalize hQe : MQ below _ _ _ _ _ _ = Q
  refine lv_iconst (v := 0) hx hb dX2_firstPlace_0 (by decide) ?_
  refine lv_istore_n (lv' := [(2, .int 0), (0, .long (lN n))]) hx hb dX2_firstPlace_1 rfl hl (by decide) rfl (fun ls hl => ?_)
  have lp : ∀ (n9 : Nat) (i : Nat) (j : Nat), i + j = 15 → zfs n 0 15 = zfs n i j → 15 - i < n9 → ∀ (H : Heap) (locs : List Loc), va_P zG0 [] [] H → va_S zF s.heap H locs → ∀ ls : Array Slot, lv_has ls 3 [(2, .int (nI i)), (0, .long (lN n))] → W p l e (headSpec wsX2_firstPlace ({ frames := 1, cells := 0, slots := 0, locals := 22 })).room s m ([.long (lN n)] : List Value).toArray below meth c H locs 0 0 Q (F0 m 2 ls []) := by
    intro n9
    induction n9 with
    | zero => intro i j hi2 hf hm9; exact absurd hm9 (Nat.not_lt_zero _)
    | succ n9 ih2 =>
      intro i j hi2 hf hm9 H locs hP hS ls hl
      refine lv_iload_n hx hb dX2_firstPlace_2 rfl (lv_at hl 0 rfl) ?_
      refine lv_bipush (v := 15) hx hb dX2_firstPlace_3 (by decide) ?_
      refine lv_icmp_ge (tgt := 22) hx hb dX2_firstPlace_5 (by decide) (fun c_5 => ?_) (fun c_5 => ?_)
      · skip
        have c_5 : 15 ≤ i := (nI_leI (a := 15) (b := i) (by omega) (by omega)).mp c_5
        refine lv_iload_n hx hb dX2_firstPlace_22 rfl (lv_at hl 0 rfl) ?_
        subst hQe
        exact W.iret (v := nI i) hx hb hr (fun t ht hW => ⟨⟨_, (), rfl, (by rw [hf, show j = 0 by omega]; rfl), trivial⟩, hS.F ht⟩) hS.2.2 dX2_firstPlace_23
      · skip
        have c_5 : ¬ 15 ≤ i := fun h9 => c_5 ((nI_leI (a := 15) (b := i) (by omega) (by omega)).mpr h9)
        refine lv_lload_n hx hb dX2_firstPlace_8 rfl (lv_at hl 1 rfl) ?_
        refine lv_iload_n hx hb dX2_firstPlace_9 rfl (lv_at hl 0 rfl) ?_
        refine zro_i (va_runS (As := [.long (lN n), .int (nI i)]) (rest := []) ⟨hx, hb, hml, hown, hts⟩ (c_X2_countAt l n (by omega) i (by omega)) (va_cwS 2 hts gX2_firstPlace_X2_countAt rfl rfl rfl (by decide +kernel) ⟨Nat.le_of_ble_eq_true rfl, Nat.le_of_ble_eq_true rfl⟩) zPu rfl rfl hl.1 rfl (lv_room (Nat.le_of_ble_eq_true rfl)) dX2_firstPlace_10 ⟨Nat.zero_le _, Nat.zero_le _⟩) hP hS (fun H locs hP hS => ?_)
        have hd_10 := dg_lt n i
        refine lv_if_ne (tgt := 22) hx hb dX2_firstPlace_13 (by decide) (fun c_13 => ?_) (fun c_13 => ?_)
        · skip
          have c_13 : ¬ (dg n i) = 0 := fun h9 => c_13 ((nI_eq (a := dg n i) (b := 0) (by omega) (by omega)).mpr h9)
          refine lv_iload_n hx hb dX2_firstPlace_22 rfl (lv_at hl 0 rfl) ?_
          subst hQe
          exact W.iret (v := nI i) hx hb hr (fun t ht hW => ⟨⟨_, (), rfl, (by rw [hf]; obtain ⟨j9, rfl⟩ : ∃ j9, j = j9 + 1 := ⟨j - 1, by omega⟩; rw [zfs_s, if_neg c_13]), trivial⟩, hS.F ht⟩) hS.2.2 dX2_firstPlace_23
        · skip
          have c_13 : (dg n i) = 0 := (nI_eq (a := dg n i) (b := 0) (by omega) (by omega)).mp c_13
          refine lv_iinc (v := nI (i + 1)) (lv' := [(2, .int (nI (i + 1))), (0, .long (lN n))]) hx hb dX2_firstPlace_16 hl (k := 0) rfl (nI_1 i) (by decide) rfl (fun ls hl => ?_)
          refine lv_goto (tgt := 2) hx hb dX2_firstPlace_19 (by decide) ?_
          exact ih2 (i + 1) (j - 1) (by omega) (by rw [hf]; obtain ⟨j9, rfl⟩ : ∃ j9, j = j9 + 1 := ⟨j - 1, by omega⟩; rw [zfs_s, if_pos c_13]; rfl) (by omega) _ _ hP hS _ (lv_sub hl [0, 1] rfl)
  exact lp 16 0 15 (by omega) rfl (by omega) _ _ hP hS _ (lv_sub hl [0, 1] rfl)

set_option maxHeartbeats 4000000 in
set_option maxRecDepth 100000 in
theorem c_X2_canBeTaken (l : Launch) (n : Nat) (hn : n < 2 ^ 63) (pl : Nat) (hp : pl < 1000)  : Met l yX2_canBeTaken wsX2_canBeTaken ({ frames := 1, cells := 0, slots := 0, locals := 22 }) (va_Pc [.long (lN n), .int (nI pl)] (fun _ => True)) (va_Qi (fun (r : Int32) (_ : Unit) => r = bI (ztk n pl)) (fun _ _ => True) zF) 0 0 zF := by
  refine Met.ofW (cc := cX2_canBeTaken) (maxL := 3) (ret := (some .boolean)) (by decide) rfl ?_
  intro p e s m args below meth c s₁ B hml hv
  obtain ⟨rfl, -⟩ := hv
  have hx := B.exec
  have hb := B.bytes
  have hr := B.returns
  have hts := atoms_spec (ws := wsX2_canBeTaken) B.pre
  have hown : s.vm.findClass RX2 = some m.cls := findClass_of_methodNamed B.named
  have hlocks := B.notSynchronized
  have hl := lv_entry ([.long (lN n), .int (nI pl)]) (n := 3) (Nat.le_of_ble_eq_true rfl)
  rw [lg_entry_eq]
  generalize (lg_sl ([.long (lN n), .int (nI pl)]) ++ List.replicate (3 - (lg_sl ([.long (lN n), .int (nI pl)])).length) Slot.unset).toArray = ls at hl ⊢
  have hl : lv_has ls 3 [(0, .long (lN n)), (2, .int (nI pl))] := hl
  have hP : va_P zG0 [] [] s.heap := fun k q h => by simp at h
  have hS : va_S zF s.heap s.heap [] := va_S.rf
  refine lv_iload_n hx hb dX2_canBeTaken_0 rfl (lv_at hl 1 rfl) ?_
  refine zro_i (va_runS (As := [.int (nI pl)]) (rest := []) ⟨hx, hb, hml, hown, hts⟩ (c_X4_isShared l pl (by omega)) (va_cwS 1 hts gX2_canBeTaken_X4_isShared rfl rfl rfl (by decide +kernel) ⟨Nat.le_of_ble_eq_true rfl, Nat.le_of_ble_eq_true rfl⟩) zPu rfl rfl hl.1 rfl (lv_room (Nat.le_of_ble_eq_true rfl)) dX2_canBeTaken_1 ⟨Nat.zero_le _, Nat.zero_le _⟩) hP hS (fun H locs hP hS => ?_)
  refine lv_if_eq (tgt := 19) hx hb dX2_canBeTaken_4 (by decide) (fun c_4 => ?_) (fun c_4 => ?_)
  · skip
    have c_4 := bI_0.mp c_4
    refine lv_iconst (v := 0) hx hb dX2_canBeTaken_19 (by decide) ?_
    exact W.zret (v := 0) hx hb hr rfl (fun t ht hW => ⟨⟨_, (), rfl, (bI_f (by simp [ztk, c_4] <;> omega)), trivial⟩, hS.F ht⟩) hS.2.2 dX2_canBeTaken_20
  · skip
    have c_4 := bI_1.mp c_4
    refine lv_lload_n hx hb dX2_canBeTaken_7 rfl (lv_at hl 0 rfl) ?_
    refine lv_iload_n hx hb dX2_canBeTaken_8 rfl (lv_at hl 1 rfl) ?_
    refine zro_i (va_runS (As := [.long (lN n), .int (nI pl)]) (rest := []) ⟨hx, hb, hml, hown, hts⟩ (c_X2_countAt l n (by omega) pl (by omega)) (va_cwS 2 hts gX2_canBeTaken_X2_countAt rfl rfl rfl (by decide +kernel) ⟨Nat.le_of_ble_eq_true rfl, Nat.le_of_ble_eq_true rfl⟩) zPu rfl rfl hl.1 rfl (lv_room (Nat.le_of_ble_eq_true rfl)) dX2_canBeTaken_9 ⟨Nat.zero_le _, Nat.zero_le _⟩) hP hS (fun H locs hP hS => ?_)
    have hd_9 := dg_lt n pl
    refine lv_if_le (tgt := 19) hx hb dX2_canBeTaken_12 (by decide) (fun c_12 => ?_) (fun c_12 => ?_)
    · skip
      have c_12 : (dg n pl) ≤ 0 := (nI_leI (a := dg n pl) (b := 0) (by omega) (by omega)).mp c_12
      refine lv_iconst (v := 0) hx hb dX2_canBeTaken_19 (by decide) ?_
      exact W.zret (v := 0) hx hb hr rfl (fun t ht hW => ⟨⟨_, (), rfl, (bI_f (by simp [ztk, c_4, c_12] <;> omega)), trivial⟩, hS.F ht⟩) hS.2.2 dX2_canBeTaken_20
    · skip
      have c_12 : ¬ (dg n pl) ≤ 0 := fun h9 => c_12 ((nI_leI (a := dg n pl) (b := 0) (by omega) (by omega)).mpr h9)
      refine lv_iconst (v := 1) hx hb dX2_canBeTaken_15 (by decide) ?_
      refine lv_goto (tgt := 20) hx hb dX2_canBeTaken_16 (by decide) ?_
      exact W.zret (v := 1) hx hb hr rfl (fun t ht hW => ⟨⟨_, (), rfl, (bI_t (by simp [ztk, c_4, c_12] <;> omega)), trivial⟩, hS.F ht⟩) hS.2.2 dX2_canBeTaken_20

set_option maxHeartbeats 4000000 in
set_option maxRecDepth 100000 in
theorem c_X2_canMove (l : Launch) (own oth fr mm : Nat) (mk : Int32) (hn : own < 2 ^ 63) (hn2 : oth < 2 ^ 63) (hfr : fr ≤ 14) (hmm : mm ≤ 4) (hmk : zmk mk mm)  : Met l yX2_canMove wsX2_canMove ({ frames := 1, cells := 0, slots := 0, locals := 22 }) (va_Pc [.long (lN own), .long (lN oth), .int (nI fr), .int mk] (fun _ => True)) (va_Qi (fun (r : Int32) (_ : Unit) => r = bI (zcm own oth fr mm)) (fun _ _ => True) zF) 0 0 zF := by
  refine Met.ofW (cc := cX2_canMove) (maxL := 7) (ret := (some .boolean)) (by decide) rfl ?_
  intro p e s m args below meth c s₁ B hml hv
  obtain ⟨rfl, -⟩ := hv
  have hx := B.exec
  have hb := B.bytes
  have hr := B.returns
  have hts := atoms_spec (ws := wsX2_canMove) B.pre
  have hown : s.vm.findClass RX2 = some m.cls := findClass_of_methodNamed B.named
  have hlocks := B.notSynchronized
  have hl := lv_entry ([.long (lN own), .long (lN oth), .int (nI fr), .int mk]) (n := 7) (Nat.le_of_ble_eq_true rfl)
  rw [lg_entry_eq]
  generalize (lg_sl ([.long (lN own), .long (lN oth), .int (nI fr), .int mk]) ++ List.replicate (7 - (lg_sl ([.long (lN own), .long (lN oth), .int (nI fr), .int mk])).length) Slot.unset).toArray = ls at hl ⊢
  have hl : lv_has ls 7 [(0, .long (lN own)), (2, .long (lN oth)), (4, .int (nI fr)), (5, .int mk)] := hl
  have hP : va_P zG0 [] [] s.heap := fun k q h => by simp at h
  have hS : va_S zF s.heap s.heap [] := va_S.rf
  refine lv_iload hx hb dX2_canMove_0 (lv_at hl 3 rfl) ?_
  refine lv_if_le (tgt := 14) hx hb dX2_canMove_2 (by decide) (fun c_2 => ?_) (fun c_2 => ?_)
  · skip
    have c_2 : mm = 0 := zmk_le hmk hmm c_2
    refine lv_iconst (v := 0) hx hb dX2_canMove_14 (by decide) ?_
    exact W.zret (v := 0) hx hb hr rfl (fun t ht hW => ⟨⟨_, (), rfl, (bI_f (by simp [zcm, c_2] <;> omega)), trivial⟩, hS.F ht⟩) hS.2.2 dX2_canMove_15
  · skip
    have c_2 : 0 < mm := zmk_gt hmk c_2
    obtain rfl : mk = nI mm := zmk_eq hmk c_2
    refine lv_lload_n hx hb dX2_canMove_5 rfl (lv_at hl 0 rfl) ?_
    refine lv_iload hx hb dX2_canMove_6 (lv_at hl 2 rfl) ?_
    refine zro_i (va_runS (As := [.long (lN own), .int (nI fr)]) (rest := []) ⟨hx, hb, hml, hown, hts⟩ (c_X2_countAt l own (by omega) fr (by omega)) (va_cwS 2 hts gX2_canMove_X2_countAt rfl rfl rfl (by decide +kernel) ⟨Nat.le_of_ble_eq_true rfl, Nat.le_of_ble_eq_true rfl⟩) zPu rfl rfl hl.1 rfl (lv_room (Nat.le_of_ble_eq_true rfl)) dX2_canMove_8 ⟨Nat.zero_le _, Nat.zero_le _⟩) hP hS (fun H locs hP hS => ?_)
    have hd_8 := dg_lt own fr
    refine lv_if_ne (tgt := 16) hx hb dX2_canMove_11 (by decide) (fun c_11 => ?_) (fun c_11 => ?_)
    · skip
      have c_11 : ¬ (dg own fr) = 0 := fun h9 => c_11 ((nI_eq (a := dg own fr) (b := 0) (by omega) (by omega)).mpr h9)
      refine lv_iload hx hb dX2_canMove_16 (lv_at hl 2 rfl) ?_
      refine lv_iload hx hb dX2_canMove_18 (lv_at hl 3 rfl) ?_
      refine lv_iadd hx hb dX2_canMove_20 ?_
      refine zz_i (y := nI (fr + mm)) (nI_add fr mm) ?_
      refine lv_istore (lv' := [(6, .int (nI (fr + mm))), (0, .long (lN own)), (2, .long (lN oth)), (4, .int (nI fr)), (5, .int (nI mm))]) hx hb dX2_canMove_21 hl (by decide) rfl (fun ls hl => ?_)
      refine lv_iload hx hb dX2_canMove_23 (lv_at hl 0 rfl) ?_
      refine lv_lload_n hx hb dX2_canMove_25 rfl (lv_at hl 1 rfl) ?_
      refine lv_iload hx hb dX2_canMove_26 (lv_at hl 0 rfl) ?_
      refine zro_i (va_runS (As := [.long (lN own), .int (nI (fr + mm))]) (rest := [.int (nI (fr + mm))]) ⟨hx, hb, hml, hown, hts⟩ (c_X2_countAt l own (by omega) (fr + mm) (by omega)) (va_cwS 2 hts gX2_canMove_X2_countAt rfl rfl rfl (by decide +kernel) ⟨Nat.le_of_ble_eq_true rfl, Nat.le_of_ble_eq_true rfl⟩) zPu rfl rfl hl.1 rfl (lv_room (Nat.le_of_ble_eq_true rfl)) dX2_canMove_28 ⟨Nat.zero_le _, Nat.zero_le _⟩) hP hS (fun H locs hP hS => ?_)
      have hd_28 := dg_lt own (fr + mm)
      refine lv_if_le (tgt := 38) hx hb dX2_canMove_31 (by decide) (fun c_31 => ?_) (fun c_31 => ?_)
      · skip
        have c_31 : (dg own (fr + mm)) ≤ 0 := (nI_leI (a := dg own (fr + mm)) (b := 0) (by omega) (by omega)).mp c_31
        refine lv_iconst (v := 0) hx hb dX2_canMove_38 (by decide) ?_
        refine lv_lload_n hx hb dX2_canMove_39 rfl (lv_at hl 2 rfl) ?_
        refine lv_iload hx hb dX2_canMove_40 (lv_at hl 0 rfl) ?_
        refine zro_i (va_runS (As := [.long (lN oth), .int (nI (fr + mm))]) (rest := [.int 0, .int (nI (fr + mm))]) ⟨hx, hb, hml, hown, hts⟩ (c_X2_countAt l oth (by omega) (fr + mm) (by omega)) (va_cwS 2 hts gX2_canMove_X2_countAt rfl rfl rfl (by decide +kernel) ⟨Nat.le_of_ble_eq_true rfl, Nat.le_of_ble_eq_true rfl⟩) zPu rfl rfl hl.1 rfl (lv_room (Nat.le_of_ble_eq_true rfl)) dX2_canMove_42 ⟨Nat.zero_le _, Nat.zero_le _⟩) hP hS (fun H locs hP hS => ?_)
        have hd_42 := dg_lt oth (fr + mm)
        refine lv_if_le (tgt := 52) hx hb dX2_canMove_45 (by decide) (fun c_45 => ?_) (fun c_45 => ?_)
        · skip
          have c_45 : (dg oth (fr + mm)) ≤ 0 := (nI_leI (a := dg oth (fr + mm)) (b := 0) (by omega) (by omega)).mp c_45
          refine lv_iconst (v := 0) hx hb dX2_canMove_52 (by decide) ?_
          refine zro_i (va_runS (As := [.int (nI (fr + mm)), .int 0, .int 0]) (rest := []) ⟨hx, hb, hml, hown, hts⟩ (c_X4_canEnter l (fr + mm) (by omega) false false) (va_cwS 3 hts gX2_canMove_X4_canEnter rfl rfl rfl (by decide +kernel) ⟨Nat.le_of_ble_eq_true rfl, Nat.le_of_ble_eq_true rfl⟩) zPu rfl rfl hl.1 rfl (lv_room (Nat.le_of_ble_eq_true rfl)) dX2_canMove_53 ⟨Nat.zero_le _, Nat.zero_le _⟩) hP hS (fun H locs hP hS => ?_)
          exact W.zret (v := bI (zcen (fr + mm) false false)) hx hb hr (bI_nar _) (fun t ht hW => ⟨⟨_, (), rfl, congrArg bI (zcm_c (by omega) (by omega) (by simp; omega) (by simp; omega)), trivial⟩, hS.F ht⟩) hS.2.2 dX2_canMove_56
        · skip
          have c_45 : ¬ (dg oth (fr + mm)) ≤ 0 := fun h9 => c_45 ((nI_leI (a := dg oth (fr + mm)) (b := 0) (by omega) (by omega)).mpr h9)
          refine lv_iconst (v := 1) hx hb dX2_canMove_48 (by decide) ?_
          refine lv_goto (tgt := 53) hx hb dX2_canMove_49 (by decide) ?_
          refine zro_i (va_runS (As := [.int (nI (fr + mm)), .int 0, .int 1]) (rest := []) ⟨hx, hb, hml, hown, hts⟩ (c_X4_canEnter l (fr + mm) (by omega) false true) (va_cwS 3 hts gX2_canMove_X4_canEnter rfl rfl rfl (by decide +kernel) ⟨Nat.le_of_ble_eq_true rfl, Nat.le_of_ble_eq_true rfl⟩) zPu rfl rfl hl.1 rfl (lv_room (Nat.le_of_ble_eq_true rfl)) dX2_canMove_53 ⟨Nat.zero_le _, Nat.zero_le _⟩) hP hS (fun H locs hP hS => ?_)
          exact W.zret (v := bI (zcen (fr + mm) false true)) hx hb hr (bI_nar _) (fun t ht hW => ⟨⟨_, (), rfl, congrArg bI (zcm_c (by omega) (by omega) (by simp; omega) (by simp; omega)), trivial⟩, hS.F ht⟩) hS.2.2 dX2_canMove_56
      · skip
        have c_31 : ¬ (dg own (fr + mm)) ≤ 0 := fun h9 => c_31 ((nI_leI (a := dg own (fr + mm)) (b := 0) (by omega) (by omega)).mpr h9)
        refine lv_iconst (v := 1) hx hb dX2_canMove_34 (by decide) ?_
        refine lv_goto (tgt := 39) hx hb dX2_canMove_35 (by decide) ?_
        refine lv_lload_n hx hb dX2_canMove_39 rfl (lv_at hl 2 rfl) ?_
        refine lv_iload hx hb dX2_canMove_40 (lv_at hl 0 rfl) ?_
        refine zro_i (va_runS (As := [.long (lN oth), .int (nI (fr + mm))]) (rest := [.int 1, .int (nI (fr + mm))]) ⟨hx, hb, hml, hown, hts⟩ (c_X2_countAt l oth (by omega) (fr + mm) (by omega)) (va_cwS 2 hts gX2_canMove_X2_countAt rfl rfl rfl (by decide +kernel) ⟨Nat.le_of_ble_eq_true rfl, Nat.le_of_ble_eq_true rfl⟩) zPu rfl rfl hl.1 rfl (lv_room (Nat.le_of_ble_eq_true rfl)) dX2_canMove_42 ⟨Nat.zero_le _, Nat.zero_le _⟩) hP hS (fun H locs hP hS => ?_)
        have hd_42 := dg_lt oth (fr + mm)
        refine lv_if_le (tgt := 52) hx hb dX2_canMove_45 (by decide) (fun c_45 => ?_) (fun c_45 => ?_)
        · skip
          have c_45 : (dg oth (fr + mm)) ≤ 0 := (nI_leI (a := dg oth (fr + mm)) (b := 0) (by omega) (by omega)).mp c_45
          refine lv_iconst (v := 0) hx hb dX2_canMove_52 (by decide) ?_
          refine zro_i (va_runS (As := [.int (nI (fr + mm)), .int 1, .int 0]) (rest := []) ⟨hx, hb, hml, hown, hts⟩ (c_X4_canEnter l (fr + mm) (by omega) true false) (va_cwS 3 hts gX2_canMove_X4_canEnter rfl rfl rfl (by decide +kernel) ⟨Nat.le_of_ble_eq_true rfl, Nat.le_of_ble_eq_true rfl⟩) zPu rfl rfl hl.1 rfl (lv_room (Nat.le_of_ble_eq_true rfl)) dX2_canMove_53 ⟨Nat.zero_le _, Nat.zero_le _⟩) hP hS (fun H locs hP hS => ?_)
          exact W.zret (v := bI (zcen (fr + mm) true false)) hx hb hr (bI_nar _) (fun t ht hW => ⟨⟨_, (), rfl, congrArg bI (zcm_c (by omega) (by omega) (by simp; omega) (by simp; omega)), trivial⟩, hS.F ht⟩) hS.2.2 dX2_canMove_56
        · skip
          have c_45 : ¬ (dg oth (fr + mm)) ≤ 0 := fun h9 => c_45 ((nI_leI (a := dg oth (fr + mm)) (b := 0) (by omega) (by omega)).mpr h9)
          refine lv_iconst (v := 1) hx hb dX2_canMove_48 (by decide) ?_
          refine lv_goto (tgt := 53) hx hb dX2_canMove_49 (by decide) ?_
          refine zro_i (va_runS (As := [.int (nI (fr + mm)), .int 1, .int 1]) (rest := []) ⟨hx, hb, hml, hown, hts⟩ (c_X4_canEnter l (fr + mm) (by omega) true true) (va_cwS 3 hts gX2_canMove_X4_canEnter rfl rfl rfl (by decide +kernel) ⟨Nat.le_of_ble_eq_true rfl, Nat.le_of_ble_eq_true rfl⟩) zPu rfl rfl hl.1 rfl (lv_room (Nat.le_of_ble_eq_true rfl)) dX2_canMove_53 ⟨Nat.zero_le _, Nat.zero_le _⟩) hP hS (fun H locs hP hS => ?_)
          exact W.zret (v := bI (zcen (fr + mm) true true)) hx hb hr (bI_nar _) (fun t ht hW => ⟨⟨_, (), rfl, congrArg bI (zcm_c (by omega) (by omega) (by simp; omega) (by simp; omega)), trivial⟩, hS.F ht⟩) hS.2.2 dX2_canMove_56
    · skip
      have c_11 : (dg own fr) = 0 := (nI_eq (a := dg own fr) (b := 0) (by omega) (by omega)).mp c_11
      refine lv_iconst (v := 0) hx hb dX2_canMove_14 (by decide) ?_
      exact W.zret (v := 0) hx hb hr rfl (fun t ht hW => ⟨⟨_, (), rfl, (bI_f (by simp [zcm, c_2, c_11] <;> omega)), trivial⟩, hS.F ht⟩) hS.2.2 dX2_canMove_15
end
section
/-! the marks' table of the class, and what a throw looks at: statics that stay -/
def ztv : Nat → Value := fun j => .int (nI (ztm j))
def zX (t : Nat) (A : Nat → Prop) (U : State) (H : Heap) : Prop := va_Z "RoyalUrTable$Dice" "TIMES_IN_16" "[I" (.ref t) A U H ∧ va_T .int t 5 ztv A U H
theorem zX.moved {t : Nat} {A : Nat → Prop} {u U : State} {H : Heap} (hvm : u.vm.Alike U.vm) (h : zX t A u H) : zX t A U H := ⟨va_Z.moved hvm h.1, va_T.moved hvm h.2⟩
theorem zX.kept {t : Nat} {A : Nat → Prop} {U : State} {H H1 : Heap} (h : zX t A U H) (hq : ∀ a : Nat, a < H.size → ¬ A a → H1[a]? = H[a]?) : zX t A U H1 := ⟨va_Z.kept h.1 hq, va_T.kept h.2 hq⟩
theorem zX.narrow {t : Nat} {A B : Nat → Prop} {U : State} {H : Heap} (h : zX t A U H) (hAB : ∀ q, B q → A q) : zX t B U H := ⟨va_Z.narrow h.1 hAB, va_T.narrow h.2 hAB⟩
abbrev zIA : String := "java/lang/IllegalArgumentException"
abbrev zIS : String := "java/lang/IllegalStateException"
theorem zNwD {x : MethodName} {u U : State} (hvm : u.vm.Alike U.vm) (h : va_Nw (.declares x) u) : va_Nw (.declares x) U := va_tabs rfl (rfl : (u.setVm U.vm).vm = U.vm) (by rw [Cond.declares_setVm hvm]; exact h)
theorem zNwC {C T : String} {u U : State} (hvm : u.vm.Alike U.vm) (h : va_Nw (.castable C T) u) : va_Nw (.castable C T) U := va_tabs rfl (rfl : (u.setVm U.vm).vm = U.vm) (by rw [Cond.castable_setVm hvm]; exact h)
/-- what the tables say of the two kinds of throw -/
def zN (U : State) : Prop := va_Nw (.declares (Bundle.init0 "java/lang/RuntimeException")) U ∧ va_Nw (.declares (Bundle.init0 "java/lang/Exception")) U ∧ va_Nw (.declares (Bundle.init0 Bundle.tN)) U ∧ va_Nw (.castable zIA zIA) U ∧ va_Nw (.castable zIS zIS) U
theorem zN.moved {u U : State} (hvm : u.vm.Alike U.vm) (h : zN u) : zN U := ⟨zNwD hvm h.1, zNwD hvm h.2.1, zNwD hvm h.2.2.1, zNwC hvm h.2.2.2.1, zNwC hvm h.2.2.2.2⟩
def zY (A : Nat → Prop) (U : State) (H : Heap) : Prop := vx_Zq Bundle.tN "UNASSIGNED_STACK" Bundle.steD A U H ∧ vx_Zq Bundle.tN "SUPPRESSED_SENTINEL" Bundle.listD A U H ∧ zN U
theorem zY.moved {A : Nat → Prop} {u U : State} {H : Heap} (hvm : u.vm.Alike U.vm) (h : zY A u H) : zY A U H := ⟨vx_Zq.moved hvm h.1, vx_Zq.moved hvm h.2.1, h.2.2.moved hvm⟩
theorem zY.kept {A : Nat → Prop} {U : State} {H H1 : Heap} (h : zY A U H) (hq : ∀ a : Nat, a < H.size → ¬ A a → H1[a]? = H[a]?) : zY A U H1 := ⟨vx_Zq.kept h.1 hq, vx_Zq.kept h.2.1 hq, h.2.2⟩
theorem zY.narrow {A B : Nat → Prop} {U : State} {H : Heap} (h : zY A U H) (hAB : ∀ q, B q → A q) : zY B U H := ⟨vx_Zq.narrow h.1 hAB, vx_Zq.narrow h.2.1 hAB, h.2.2⟩
def zG (t : Nat) (A : Nat → Prop) (U : State) (H : Heap) : Prop := zX t A U H ∧ zY A U H
theorem zG.moved {t : Nat} {A : Nat → Prop} {u U : State} {H : Heap} (hvm : u.vm.Alike U.vm) (h : zG t A u H) : zG t A U H := ⟨h.1.moved hvm, h.2.moved hvm⟩
theorem zG.kept {t : Nat} {A : Nat → Prop} {U : State} {H H1 : Heap} (h : zG t A U H) (hq : ∀ a : Nat, a < H.size → ¬ A a → H1[a]? = H[a]?) : zG t A U H1 := ⟨h.1.kept hq, h.2.kept hq⟩
theorem zG.narrow {t : Nat} {A B : Nat → Prop} {U : State} {H : Heap} (h : zG t A U H) (hAB : ∀ q, B q → A q) : zG t B U H := ⟨h.1.narrow hAB, h.2.narrow hAB⟩
theorem zB_X {t : Nat} {A : Nat → Prop} : zB (fun U => zX t A U U.heap) := fun U V hv hh h => by show _; simp only [hh]; exact h.moved hv
theorem zB_Y {A : Nat → Prop} : zB (fun U => zY A U U.heap) := fun U V hv hh h => by show _; simp only [hh]; exact h.moved hv
theorem zB_G {t : Nat} {A : Nat → Prop} : zB (fun U => zG t A U U.heap) := fun U V hv hh h => by show _; simp only [hh]; exact h.moved hv
/-- .. at a call -/
theorem zX_at {t : Nat} {A B : Nat → Prop} {s : State} {H : Heap} {locs : List Loc} (h : zX t A s s.heap) (hS : va_S A s.heap H locs) (hAB : ∀ q, B q → A q) : ∀ U : State, U.heap = H → s.vm.Alike U.vm → zX t B U U.heap := fun U hU hv => by rw [hU]; exact ((h.kept hS.2.1).moved hv).narrow hAB
theorem zY_at {A B : Nat → Prop} {s : State} {H : Heap} {locs : List Loc} (h : zY A s s.heap) (hS : va_S A s.heap H locs) (hAB : ∀ q, B q → A q) : ∀ U : State, U.heap = H → s.vm.Alike U.vm → zY B U U.heap := fun U hU hv => by rw [hU]; exact ((h.kept hS.2.1).moved hv).narrow hAB
theorem zG_at {t : Nat} {A B : Nat → Prop} {s : State} {H : Heap} {locs : List Loc} (h : zG t A s s.heap) (hS : va_S A s.heap H locs) (hAB : ∀ q, B q → A q) : ∀ U : State, U.heap = H → s.vm.Alike U.vm → zG t B U U.heap := fun U hU hv => by rw [hU]; exact ((h.kept hS.2.1).moved hv).narrow hAB
theorem zF_A {A : Nat → Prop} : ∀ q, zF q → A q := fun _ h => h.elim
/-- a start of a method on numbers and such statics -/
theorem zPx {s : State} {H : Heap} {As : List Value} {X : State → Prop} (hX : zB X) (hXs : ∀ U : State, U.heap = H → s.vm.Alike U.vm → X U) : PreS s H (va_Pc As X) As :=
  ⟨fun a U g mk q => ⟨q.1, hX U (U.calling g mk a) (Vm.Alike.refl U.vm) rfl q.2⟩, fun U hU hW => ⟨rfl, hXs U hU hW.alike⟩⟩
set_option maxHeartbeats 4000000 in
set_option maxRecDepth 100000 in
theorem c_X0_timesIn16 (l : Launch) (tb mm : Nat) (hmm : mm ≤ 4) : Met l yX0_timesIn16 wsX0_timesIn16 ({ frames := 0, cells := 0, slots := 0, locals := 0 }) (va_Pc [.int (nI mm)] (fun U => zX tb zF U U.heap)) (va_Qi (fun (r : Int32) (_ : Unit) => r = nI (ztm mm)) (fun _ _ => True) zF) 0 0 zF := by
  refine Met.ofW (cc := cX0_timesIn16) (maxL := 1) (ret := (some .int)) (by decide) rfl ?_
  intro p e s m args below meth c s₁ B hml hv
  obtain ⟨rfl, hX⟩ := hv
  have hx := B.exec
  have hb := B.bytes
  have hr := B.returns
  have hts := atoms_spec (ws := wsX0_timesIn16) B.pre
  have hown : s.vm.findClass RX0 = some m.cls := findClass_of_methodNamed B.named
  have hlocks := B.notSynchronized
  have hl := lv_entry ([.int (nI mm)]) (n := 1) (Nat.le_of_ble_eq_true rfl)
  rw [lg_entry_eq]
  generalize (lg_sl ([.int (nI mm)]) ++ List.replicate (1 - (lg_sl ([.int (nI mm)])).length) Slot.unset).toArray = ls at hl ⊢
  have hl : lv_has ls 1 [(0, .int (nI mm))] := hl
  have hS : va_S zF s.heap s.heap [] := va_S.rf
  refine lv_iload_n hx hb dX0_timesIn16_0 rfl (lv_at hl 0 rfl) ?_
  refine lv_if_lt (tgt := 12) hx hb dX0_timesIn16_1 (by decide) (fun c_1 => absurd ((nI_ltI (a := mm) (b := 0) (by omega) (by omega)).mp c_1) (Nat.not_lt_zero _)) (fun _ => ?_)
  refine lv_iload_n hx hb dX0_timesIn16_4 rfl (lv_at hl 0 rfl) ?_
  refine va_gets (A := zF) hx hb hX.1 hS hown (hts (.fieldLink RX0 7 "RoyalUrTable$Dice" "TIMES_IN_16" "[I") (List.mem_of_getElem? (i := 1) rfl)) (fun _ h9 => h9) dX0_timesIn16_5 ?_
  refine va_tlen (v := 5) hx hb hX.2 hS rfl dX0_timesIn16_8 ?_
  refine lv_icmp_lt (tgt := 16) hx hb dX0_timesIn16_9 (by decide) (fun _ => ?_) (fun c_9 => absurd ((nI_ltI (a := mm) (b := 5) (by omega) (by omega)).mpr (by omega)) c_9)
  refine va_gets (A := zF) hx hb hX.1 hS hown (hts (.fieldLink RX0 7 "RoyalUrTable$Dice" "TIMES_IN_16" "[I") (List.mem_of_getElem? (i := 1) rfl)) (fun _ h9 => h9) dX0_timesIn16_16 ?_
  refine lv_iload_n hx hb dX0_timesIn16_19 rfl (lv_at hl 0 rfl) ?_
  refine va_ti (v := .int (nI (ztm mm))) hx hb hX.2 hS (vp_in_nI (n := mm) (by omega) (by decide)) (by rw [nI_clamp (by omega)]; rfl) dX0_timesIn16_20 ?_
  exact W.iret (v := nI (ztm mm)) hx hb hr (fun t ht hW => ⟨⟨_, (), rfl, rfl, trivial⟩, hS.F ht⟩) hS.2.2 dX0_timesIn16_21

set_option maxHeartbeats 4000000 in
set_option maxRecDepth 100000 in
theorem c_X5_refuseOutside (l : Launch) (hl0 : l.stackTraces = false) (v lo hi : Int32) : vx_Met l yX5_refuseOutside wsX5_refuseOutside ({ frames := 6, cells := 1, slots := 6, locals := 90 }) (va_Pc [.int v, .int lo, .int hi] (fun U => zY zF U U.heap)) (va_Qv (fun (_ : Unit) => lo ≤ v ∧ v ≤ hi) (fun _ _ => True) zF) (vx_X (fun (_ : Unit) => ¬ (lo ≤ v ∧ v ≤ hi)) (fun E _ _ => E = "java/lang/IllegalArgumentException") zF) 1 6 zF := by
  refine vx_ofW (cc := cX5_refuseOutside) (maxL := 3) (ret := none) (by decide) rfl ?_
  intro p e s m args below meth c s₁ B hml hnt hv
  obtain ⟨rfl, hY⟩ := hv
  have hx := B.exec
  have hb := B.bytes
  have hr := B.returns
  have hts := atoms_spec (ws := wsX5_refuseOutside) B.pre
  have hown : s.vm.findClass RX5 = some m.cls := findClass_of_methodNamed B.named
  have hlocks := B.notSynchronized
  have hl := lv_entry ([.int v, .int lo, .int hi]) (n := 3) (Nat.le_of_ble_eq_true rfl)
  rw [lg_entry_eq]
  generalize (lg_sl ([.int v, .int lo, .int hi]) ++ List.replicate (3 - (lg_sl ([.int v, .int lo, .int hi])).length) Slot.unset).toArray = ls at hl ⊢
  have hl : lv_has ls 3 [(0, .int v), (1, .int lo), (2, .int hi)] := hl
  have hS : va_S zF s.heap s.heap [] := va_S.rf
  have hl9 := hl.1.trans hml.symm
  refine lv_iload_n hx hb dX5_refuseOutside_0 rfl (lv_at hl 0 rfl) ?_
  refine lv_iload_n hx hb dX5_refuseOutside_1 rfl (lv_at hl 1 rfl) ?_
  refine lv_icmp_lt (tgt := 10) hx hb dX5_refuseOutside_2 (by decide) (fun c_2 => ?_) (fun c_2 => ?_)
  · refine vx_throw0 (cls := "java/lang/IllegalArgumentException") (names := ["java/lang/RuntimeException", "java/lang/Exception"]) (ik := 108) (ic := 110) (A := zF) hx hb hl0 hown (by decide +kernel) (by decide +kernel) (hts (.classLink RX5 108 "java/lang/IllegalArgumentException") (List.mem_of_getElem? (i := 1) rfl)) (hts (.initialized "java/lang/IllegalArgumentException") (List.mem_of_getElem? (i := 2) rfl)) (vx_hat (fun w h => hts w (List.mem_cons_of_mem _ (List.mem_append_right _ h))) (by decide +kernel) (vx_c (va_Nw.use rfl hY.2.2.1) (vx_c (va_Nw.use rfl hY.2.2.2.1) (vx_c (va_Nw.use rfl hY.2.2.2.2.1) (vx_c (va_Nw.use rfl hY.2.2.2.2.2.1) vx_n))))) (by decide +kernel) hY.1 hY.2.1 hS hl9 dX5_refuseOutside_10 dX5_refuseOutside_13 dX5_refuseOutside_14 dX5_refuseOutside_17 (fun x hx9 => (hnt x hx9).elim) (Nat.le_of_ble_eq_true rfl) (Nat.le_of_ble_eq_true rfl) (Nat.le_of_ble_eq_true rfl) (Nat.le_of_ble_eq_true rfl) hlocks (fun t hv hz hk => ⟨(), (fun h => absurd c_2 (Int32.not_lt.mpr h.1)), rfl, hz, fun q hq _ => hk q hq⟩) (fun z hz => by cases hz) (Nat.le_refl _) (Nat.le_refl _)
  · refine lv_iload_n hx hb dX5_refuseOutside_5 rfl (lv_at hl 0 rfl) ?_
    refine lv_iload_n hx hb dX5_refuseOutside_6 rfl (lv_at hl 2 rfl) ?_
    refine lv_icmp_le (tgt := 18) hx hb dX5_refuseOutside_7 (by decide) (fun c_7 => ?_) (fun c_7 => ?_)
    · refine vx_ret (mc := 1) (ms := 6) ?_
      refine W.widen (k := 1) (n := 6) (Nat.le_of_ble_eq_true rfl) (Nat.le_of_ble_eq_true rfl) ?_
      exact W.vret hx hb hr (fun t ht hW => ⟨⟨(), rfl, ⟨Int32.not_lt.mp c_2, c_7⟩, trivial⟩, hS.F ht⟩) hS.2.2 dX5_refuseOutside_18
    · refine vx_throw0 (cls := "java/lang/IllegalArgumentException") (names := ["java/lang/RuntimeException", "java/lang/Exception"]) (ik := 108) (ic := 110) (A := zF) hx hb hl0 hown (by decide +kernel) (by decide +kernel) (hts (.classLink RX5 108 "java/lang/IllegalArgumentException") (List.mem_of_getElem? (i := 1) rfl)) (hts (.initialized "java/lang/IllegalArgumentException") (List.mem_of_getElem? (i := 2) rfl)) (vx_hat (fun w h => hts w (List.mem_cons_of_mem _ (List.mem_append_right _ h))) (by decide +kernel) (vx_c (va_Nw.use rfl hY.2.2.1) (vx_c (va_Nw.use rfl hY.2.2.2.1) (vx_c (va_Nw.use rfl hY.2.2.2.2.1) (vx_c (va_Nw.use rfl hY.2.2.2.2.2.1) vx_n))))) (by decide +kernel) hY.1 hY.2.1 hS hl9 dX5_refuseOutside_10 dX5_refuseOutside_13 dX5_refuseOutside_14 dX5_refuseOutside_17 (fun x hx9 => (hnt x hx9).elim) (Nat.le_of_ble_eq_true rfl) (Nat.le_of_ble_eq_true rfl) (Nat.le_of_ble_eq_true rfl) (Nat.le_of_ble_eq_true rfl) hlocks (fun t hv hz hk => ⟨(), (fun h => absurd h.2 c_7), rfl, hz, fun q hq _ => hk q hq⟩) (fun z hz => by cases hz) (Nat.le_refl _) (Nat.le_refl _)
end
section
/-! What the game's worths are, in natural numbers, and what a move does to the digits. -/
def zsm (f : Nat → Nat) : Nat → Nat
  | 0 => 0
  | k + 1 => zsm f k + ztm k * f k
theorem zsm_le {f : Nat → Nat} (h : ∀ m, m ≤ 4 → f m ≤ 1000000000) : ∀ k, k ≤ 5 → zsm f k ≤ 16000000000 := by
  have h0 := h 0 (by omega)
  have h1 := h 1 (by omega)
  have h2 := h 2 (by omega)
  have h3 := h 3 (by omega)
  have h4 := h 4 (by omega)
  intro k hk
  obtain rfl | rfl | rfl | rfl | rfl | rfl : k = 0 ∨ k = 1 ∨ k = 2 ∨ k = 3 ∨ k = 4 ∨ k = 5 := by omega
  all_goals (simp [zsm, ztm]; try omega)
theorem zsm_div {f : Nat → Nat} (h : ∀ m, m ≤ 4 → f m ≤ 1000000000) : zsm f 5 / 16 ≤ 1000000000 := by
  have := zsm_le h 5 (by omega)
  omega
theorem ztm_le (m : Nat) : ztm m ≤ 6 := by
  unfold ztm
  repeat' split
  all_goals omega
/-- endings: behind a throw, by the worths to throw of a round less -/
def zEB (V : Nat → Nat → Nat) (own oth m : Nat) : Nat :=
  if m = 0 then 1000000000 - V oth own
  else if zcen (own + m) false (oth == own + m) = false then 1000000000 - V oth own
  else if own + m = 15 then 1000000000
  else if zros (own + m) = true then V (own + m) (if oth = own + m ∧ zshr (own + m) = true then 0 else oth)
  else 1000000000 - V (if oth = own + m ∧ zshr (own + m) = true then 0 else oth) (own + m)
def zE : Nat → Nat → Nat → Nat
  | 0, _, _ => 500000000
  | r + 1, own, oth => zsm (zEB (zE r) own oth) 5 / 16
theorem zEB_le {V : Nat → Nat → Nat} (h : ∀ a b, V a b ≤ 1000000000) (own oth m : Nat) : zEB V own oth m ≤ 1000000000 := by
  unfold zEB
  repeat' split
  all_goals first | omega | exact h _ _
theorem zE_le : ∀ r own oth, zE r own oth ≤ 1000000000 := by
  intro r
  induction r with
  | zero => intro _ _; show 500000000 ≤ 1000000000; omega
  | succ r ih => intro own oth; exact zsm_div (fun m _ => zEB_le ih own oth m)
/-- the worth without looking ahead, of positions of k pieces each -/
def zLf (k own oth : Nat) : Nat :=
  if dg own 15 = k - 1 ∧ dg oth 15 = k - 1 then zE 40 (zfs own 0 15) (zfs oth 0 15)
  else min (max (500000000 + 4000000 * psum own 16 - 4000000 * psum oth 16) 1) 999999999
/-- is there a move among the first j places; the greatest of g over them -/
def zHas (own oth m : Nat) : Nat → Bool
  | 0 => false
  | j + 1 => zHas own oth m j || zcm own oth j m
def zBst (g : Nat → Nat) (own oth m : Nat) : Nat → Nat
  | 0 => 0
  | j + 1 => if zcm own oth j m = true then max (zBst g own oth m j) (g j) else zBst g own oth m j
def zNum (own oth m : Nat) : Nat → Nat
  | 0 => 0
  | j + 1 => zNum own oth m j + (if zcm own oth j m = true then 1 else 0)
/-- behind a move -/
def zBM (V : Nat → Nat → Nat) (own oth fr m : Nat) : Nat :=
  if zhome (zsh own fr (fr + m)) = true then 1000000000
  else if zros (fr + m) = true then V (zsh own fr (fr + m)) (if ztk oth (fr + m) = true then zsh oth (fr + m) 0 else oth)
  else 1000000000 - V (if ztk oth (fr + m) = true then zsh oth (fr + m) 0 else oth) (zsh own fr (fr + m))
/-- behind a throw -/
def zBT (V : Nat → Nat → Nat) (own oth m : Nat) : Nat :=
  if zHas own oth m 15 = true then zBst (fun fr => zBM V own oth fr m) own oth m 15 else 1000000000 - V oth own
/-- to throw, with a depth -/
def zV (k : Nat) : Nat → Nat → Nat → Nat
  | 0, own, oth => zLf k own oth
  | d + 1, own, oth => zsm (zBT (zV k d) own oth) 5 / 16
theorem zLf_le (k own oth : Nat) : zLf k own oth ≤ 1000000000 := by
  unfold zLf
  split
  · exact zE_le _ _ _
  · omega
theorem zBM_le {V : Nat → Nat → Nat} (h : ∀ a b, V a b ≤ 1000000000) (own oth fr m : Nat) : zBM V own oth fr m ≤ 1000000000 := by
  unfold zBM
  split
  · exact Nat.le_refl _
  · split
    · exact h _ _
    · omega
theorem zBst_le {g : Nat → Nat} (h : ∀ a, g a ≤ 1000000000) (own oth m : Nat) : ∀ j, zBst g own oth m j ≤ 1000000000 := by
  intro j
  induction j with
  | zero => exact Nat.zero_le _
  | succ j ih =>
    show (if _ then _ else _) ≤ _
    split
    · exact Nat.max_le.mpr ⟨ih, h j⟩
    · exact ih
theorem zBT_le {V : Nat → Nat → Nat} (h : ∀ a b, V a b ≤ 1000000000) (own oth m : Nat) : zBT V own oth m ≤ 1000000000 := by
  unfold zBT
  split
  · exact zBst_le (fun a => zBM_le h _ _ _ _) _ _ _ _
  · omega
theorem zV_le (k : Nat) : ∀ d own oth, zV k d own oth ≤ 1000000000 := by
  intro d
  induction d with
  | zero => intro own oth; exact zLf_le _ _ _
  | succ d ih => intro own oth; exact zsm_div (fun m _ => zBT_le ih own oth m)
/-! digits under a move -/
theorem dg_low {n a p : Nat} (h : p < a) : n % 16 ^ a / 16 ^ p % 16 = dg n p := by
  have e : (16 : Nat) ^ a = 16 ^ p * 16 ^ (a - p) := by rw [← Nat.pow_add]; congr 1; omega
  rw [e, Nat.mod_mul_right_div_self, dg]
  exact Nat.mod_mod_of_dvd _ ⟨16 ^ (a - p - 1), by rw [← Nat.pow_succ']; congr 1; omega⟩
theorem dg_high {n a p : Nat} (h : a < p) : dg n p = n / 16 ^ a / 16 / 16 ^ (p - a - 1) % 16 := by
  rw [dg, Nat.div_div_eq_div_mul, Nat.div_div_eq_div_mul]
  congr 2
  rw [← Nat.pow_succ', ← Nat.pow_add]
  congr 1
  omega
theorem dg_sub {n a : Nat} (h : 0 < dg n a) (p : Nat) : dg (n - 16 ^ a) p = dg n p - (if p = a then 1 else 0) := by
  have hpos : 0 < (16 : Nat) ^ a := Nat.pow_pos (by decide)
  have hq : 1 ≤ n / 16 ^ a % 16 := h
  have hle : 16 ^ a ≤ n := by
    rcases Nat.lt_or_ge n (16 ^ a) with h1 | h1
    · rw [Nat.div_eq_of_lt h1] at hq; omega
    · exact h1
  have e1 : (n - 16 ^ a) % 16 ^ a = n % 16 ^ a := by
    have := Nat.add_mod_right (n - 16 ^ a) (16 ^ a)
    rw [Nat.sub_add_cancel hle] at this
    exact this.symm
  have e2 : (n - 16 ^ a) / 16 ^ a = n / 16 ^ a - 1 := by
    have := Nat.add_div_right (n - 16 ^ a) hpos
    rw [Nat.sub_add_cancel hle] at this
    rw [this, Nat.add_sub_cancel]
  rcases Nat.lt_trichotomy p a with hp | hp | hp
  · rw [if_neg (by omega), Nat.sub_zero, ← dg_low hp, e1, dg_low hp]
  · subst hp
    rw [if_pos rfl]
    show (n - 16 ^ p) / 16 ^ p % 16 = n / 16 ^ p % 16 - 1
    rw [e2]
    generalize n / 16 ^ p = q at hq ⊢
    omega
  · have e3 : (n / 16 ^ a - 1) / 16 = n / 16 ^ a / 16 := by
      generalize n / 16 ^ a = q at hq ⊢
      omega
    rw [if_neg (by omega), Nat.sub_zero, dg_high hp, dg_high hp, e2, e3]
theorem dg_add {n b : Nat} (h : dg n b < 15) (p : Nat) : dg (n + 16 ^ b) p = dg n p + (if p = b then 1 else 0) := by
  have hpos : 0 < (16 : Nat) ^ b := Nat.pow_pos (by decide)
  have hq : n / 16 ^ b % 16 < 15 := h
  have e1 : (n + 16 ^ b) % 16 ^ b = n % 16 ^ b := Nat.add_mod_right _ _
  have e2 : (n + 16 ^ b) / 16 ^ b = n / 16 ^ b + 1 := Nat.add_div_right _ hpos
  rcases Nat.lt_trichotomy p b with hp | hp | hp
  · rw [if_neg (by omega), Nat.add_zero, ← dg_low hp, e1, dg_low hp]
  · subst hp
    rw [if_pos rfl]
    show (n + 16 ^ p) / 16 ^ p % 16 = n / 16 ^ p % 16 + 1
    rw [e2]
    generalize n / 16 ^ p = q at hq ⊢
    omega
  · have e3 : (n / 16 ^ b + 1) / 16 = n / 16 ^ b / 16 := by
      generalize n / 16 ^ b = q at hq ⊢
      omega
    rw [if_neg (by omega), Nat.add_zero, dg_high hp, dg_high hp, e2, e3]
theorem dg_sh {n a b : Nat} (ha : 0 < dg n a) (hb : dg n b < 15) (hab : a ≠ b) (p : Nat) : dg (zsh n a b) p = dg n p - (if p = a then 1 else 0) + (if p = b then 1 else 0) := by
  have h1 : dg (n - 16 ^ a) b < 15 := by rw [dg_sub ha, if_neg (fun e => hab e.symm)]; omega
  rw [zsh, dg_add h1, dg_sub ha]
theorem dg_le {n a : Nat} (h : 0 < dg n a) : 16 ^ a ≤ n := by
  rcases Nat.lt_or_ge n (16 ^ a) with h1 | h1
  · rw [dg, Nat.div_eq_of_lt h1] at h; exact absurd h (by decide)
  · exact h1
/-- a layout of k pieces -/
def zok (k n : Nat) : Prop := k ≤ 4 ∧ n < 16 ^ 16 ∧ dsum n 16 = k
theorem dsum_mono (n : Nat) : ∀ j p, p < j → dg n p ≤ dsum n j := by
  intro j
  induction j with
  | zero => intro p hp; omega
  | succ j ih =>
    intro p hp
    show _ ≤ dsum n j + dg n j
    rcases Nat.lt_or_ge p j with h | h
    · have := ih p h; omega
    · rw [show p = j by omega]; omega
theorem psum_dsum (n : Nat) : ∀ j, j ≤ 16 → psum n j ≤ 15 * dsum n j := by
  intro j
  induction j with
  | zero => intro _; exact Nat.le_refl _
  | succ j ih =>
    intro hj
    have h1 := ih (by omega)
    have h2 : j * dg n j ≤ 15 * dg n j := Nat.mul_le_mul_right _ (by omega)
    show psum n j + j * dg n j ≤ 15 * (dsum n j + dg n j)
    rw [Nat.mul_add]
    omega
theorem zok_dg {k n : Nat} (h : zok k n) (p : Nat) (hp : p ≤ 15) : dg n p ≤ 4 := by
  have := dsum_mono n 16 p (by omega)
  rw [h.2.2] at this
  have := h.1
  omega
theorem zok.ps {k n : Nat} (h : zok k n) : psum n 16 ≤ 60 := by
  have := psum_dsum n 16 (by omega)
  rw [h.2.2] at this
  have := h.1
  omega
theorem zok.lt {k n : Nat} (h : zok k n) : n < 2 ^ 63 := by
  have h1 := zok_dg h 15 (by omega)
  have h2 := h.2.1
  have h3 : n / 16 ^ 15 % 16 ≤ 4 := h1
  omega
theorem dsum_sh {n a b : Nat} (ha : 0 < dg n a) (hb : dg n b < 15) (hab : a ≠ b) : ∀ j, dsum (zsh n a b) j + (if a < j then 1 else 0) = dsum n j + (if b < j then 1 else 0) := by
  intro j
  induction j with
  | zero => rfl
  | succ j ih =>
    show dsum (zsh n a b) j + dg (zsh n a b) j + _ = dsum n j + dg n j + _
    rw [dg_sh ha hb hab]
    by_cases h1 : j = a
    · subst h1
      rw [if_pos rfl, if_neg hab, if_pos (by omega)]
      rw [if_neg (by omega)] at ih
      by_cases h2 : b < j
      · rw [if_pos h2] at ih; rw [if_pos (by omega)]; omega
      · rw [if_neg h2] at ih; rw [if_neg (by omega)]; omega
    · by_cases h3 : j = b
      · subst h3
        rw [if_neg (fun e => hab e.symm), if_pos rfl, if_pos (show j < j + 1 by omega)]
        rw [if_neg (show ¬ j < j by omega)] at ih
        by_cases h2 : a < j
        · rw [if_pos h2] at ih; rw [if_pos (by omega)]; omega
        · rw [if_neg h2] at ih; rw [if_neg (by omega)]; omega
      · rw [if_neg h1, if_neg h3]
        have e1 : (a < j + 1) = (a < j) := by apply propext; omega
        have e2 : (b < j + 1) = (b < j) := by apply propext; omega
        simp only [e1, e2]
        omega
theorem psum_sh {n a b : Nat} (ha : 0 < dg n a) (hb : dg n b < 15) (hab : a ≠ b) : ∀ j, psum (zsh n a b) j + (if a < j then a else 0) = psum n j + (if b < j then b else 0) := by
  intro j
  induction j with
  | zero => rfl
  | succ j ih =>
    show psum (zsh n a b) j + j * dg (zsh n a b) j + _ = psum n j + j * dg n j + _
    rw [dg_sh ha hb hab]
    by_cases h1 : j = a
    · subst h1
      rw [if_pos rfl, if_neg hab, if_pos (by omega)]
      rw [if_neg (by omega)] at ih
      have e : j * (dg n j - 1 + 0) + j = j * dg n j := by rw [Nat.add_zero, ← Nat.mul_succ]; congr 1; omega
      by_cases h2 : b < j
      · rw [if_pos h2] at ih; rw [if_pos (by omega)]; omega
      · rw [if_neg h2] at ih; rw [if_neg (by omega)]; omega
    · by_cases h3 : j = b
      · subst h3
        rw [if_neg (fun e => hab e.symm), if_pos rfl, if_pos (show j < j + 1 by omega)]
        rw [if_neg (show ¬ j < j by omega)] at ih
        have e : j * (dg n j - 0 + 1) = j * dg n j + j := by rw [Nat.sub_zero, Nat.mul_succ]
        by_cases h2 : a < j
        · rw [if_pos h2] at ih; rw [if_pos (by omega)]; omega
        · rw [if_neg h2] at ih; rw [if_neg (by omega)]; omega
      · rw [if_neg h1, if_neg h3]
        have e1 : (a < j + 1) = (a < j) := by apply propext; omega
        have e2 : (b < j + 1) = (b < j) := by apply propext; omega
        simp only [e1, e2, Nat.sub_zero, Nat.add_zero]
        omega
theorem zsh_lt {n a b : Nat} (ha : 0 < dg n a) (h : n < 16 ^ 16) (hbd : dg n b < 15) (hab : a ≠ b) (hb : b ≤ 15) : zsh n a b < 16 ^ 16 := by
  have h1 := dg_le ha
  rcases Nat.lt_or_ge (zsh n a b) (16 ^ 16) with h2 | h2
  · exact h2
  · exfalso
    have h3 : zsh n a b < 2 * 16 ^ 16 := by
      have : (16 : Nat) ^ b ≤ 16 ^ 16 := Nat.pow_le_pow_right (by decide) (by omega)
      have h7 := Nat.sub_le n (16 ^ a)
      unfold zsh
      omega
    have h4 := dg_sh ha hbd hab 16
    have h5 : dg n 16 = 0 := by rw [dg, Nat.div_eq_of_lt h]
    rw [h5, if_neg (show ¬ 16 = b by omega)] at h4
    have h6 : dg (zsh n a b) 16 = 1 := by
      rw [dg]
      have : zsh n a b / 16 ^ 16 = 1 := by omega
      rw [this]
    rw [h6] at h4
    omega
theorem zok_sh {k n a b : Nat} (h : zok k n) (ha : 0 < dg n a) (hal : a ≤ 15) (hb : b ≤ 15) (hab : a ≠ b) : zok k (zsh n a b) := by
  have hbd : dg n b < 15 := by have := zok_dg h b hb; omega
  refine ⟨h.1, zsh_lt ha h.2.1 hbd hab hb, ?_⟩
  have := dsum_sh ha hbd hab 16
  rw [if_pos (by omega), if_pos (by omega)] at this
  have := h.2.2
  omega
theorem psum_shk {k n a b : Nat} (h : zok k n) (ha : 0 < dg n a) (hal : a ≤ 15) (hb : b ≤ 15) (hab : a ≠ b) : psum (zsh n a b) 16 + a = psum n 16 + b := by
  have hbd : dg n b < 15 := by have := zok_dg h b hb; omega
  have := psum_sh ha hbd hab 16
  rwa [if_pos (by omega), if_pos (by omega)] at this
/-- all home: no digit below place 15 -/
theorem dsum_mod (n : Nat) : ∀ j, n % 16 ^ j = 0 ↔ dsum n j = 0 := by
  intro j
  induction j with
  | zero => simp [dsum, Nat.mod_one]
  | succ j ih =>
    rw [Nat.mod_pow_succ]
    show _ ↔ dsum n j + dg n j = 0
    have hp : 0 < (16 : Nat) ^ j := Nat.pow_pos (by decide)
    constructor
    · intro h
      have h1 : n % 16 ^ j = 0 := by omega
      have h2 : 16 ^ j * (n / 16 ^ j % 16) = 0 := by omega
      have h3 : n / 16 ^ j % 16 = 0 := by
        rcases Nat.mul_eq_zero.mp h2 with e | e
        · omega
        · exact e
      have h4 := ih.mp h1
      show dsum n j + n / 16 ^ j % 16 = 0
      omega
    · intro h
      have h1 := ih.mpr (by omega)
      have h2 : n / 16 ^ j % 16 = 0 := by
        have : dg n j = 0 := by omega
        exact this
      rw [h1, h2, Nat.mul_zero]
theorem zhome_iff {k n : Nat} (h : zok k n) : zhome n = true ↔ dg n 15 = k := by
  have h1 : (2 : Nat) ^ 60 = 16 ^ 15 := by decide
  have h2 : dsum n 15 + dg n 15 = k := h.2.2
  rw [zhome, h1, beq_iff_eq, dsum_mod]
  omega
theorem zcm_spec {own oth fr m : Nat} (h : zcm own oth fr m = true) : 0 < m ∧ 0 < dg own fr ∧ fr + m ≤ 15 := by
  unfold zcm at h
  simp only [Bool.and_eq_true, decide_eq_true_eq] at h
  refine ⟨h.1.1, h.1.2, ?_⟩
  have h2 := h.2
  unfold zcen at h2
  split at h2
  · rw [beq_iff_eq] at h2; omega
  · omega
theorem ztk_spec {oth p : Nat} (h : ztk oth p = true) : 5 ≤ p ∧ p ≤ 12 ∧ 0 < dg oth p := by
  unfold ztk zshr at h
  simp only [Bool.and_eq_true, decide_eq_true_eq] at h
  exact ⟨h.1.1, h.1.2, h.2⟩
end
section
/-! the endings of the class: a table that is filled round by round -/
/-- the first k rounds stand in the table -/
def zTb (k : Nat) (wf : Nat → Int32) : Prop := ∀ r, 1 ≤ r → r ≤ k → ∀ own oth, own < 15 → oth < 15 → wf ((r - 1) * 225 + own * 15 + oth) = nI (zE r own oth)
theorem zTb.le {k j : Nat} {wf : Nat → Int32} (h : zTb k wf) (hj : j ≤ k) : zTb j wf := fun r h1 h2 => h r h1 (by omega)
theorem zsm_s (f : Nat → Nat) (i : Nat) : lN (zsm f i) + lN (ztm i) * lN (f i) = lN (zsm f (i + 1)) := by
  rw [lN_mul, lN_add]; rfl
theorem ztm_l (m : Nat) : (nI (ztm m)).toInt64 = lN (ztm m) := nI_l (by have := ztm_le m; omega)
theorem nI_lw {x : Nat} (h : x ≤ 1000000000) : (nI x).toInt64 = lN x := nI_l (by omega)
theorem zdiv16 {x : Nat} (h : x ≤ 16000000000) : lN x / 16 = lN (x / 16) := pk_lDiv (by omega) (by decide) (by decide)
theorem zsubW {x : Nat} (h : x ≤ 1000000000) : (1000000000 : Int32) - nI x = nI (1000000000 - x) := pk_sub h
theorem zcen_le {p : Nat} {o t : Bool} (h : zcen p o t = true) : p ≤ 15 := by
  unfold zcen at h
  split at h
  · rw [beq_iff_eq] at h; omega
  · omega
set_option maxHeartbeats 4000000 in
set_option maxRecDepth 100000 in
theorem c_X1_held (l : Launch) (dC : Nat → ClassId) (dI : Nat → Nat → Nat) (cyI cyJ : ClassId) (ae at_ : Nat) (rh : Int32) (wf : Nat → Int32) (k : Nat) (hk : k ≤ 60) (htb : zTb k wf) (own oth rr : Nat) (ho : own < 15) (ht9 : oth < 15) (hr9 : rr ≤ k) : Met l yX1_held wsX1_held ({ frames := 0, cells := 0, slots := 0, locals := 0 }) (zPc [.ref ae, .int (nI own), .int (nI oth), .int (nI rr)] (dC, dI) vwCl [(cyI, .int), (cyJ, .long)] [(ae, .inr (0, [.ref at_, .int rh])), (at_, .inl (cyI, 13500, .inl wf))] (fun _ => True)) (va_Qi (fun (r : Int32) (_ : Unit) => r = nI (zE rr own oth)) (fun _ _ => True) zF) 0 0 zF := by
  refine Met.ofW (cc := cX1_held) (maxL := 5) (ret := (some .int)) (by decide) rfl ?_
  intro p e s m args below meth c s₁ B hml hv
  obtain ⟨rfl, hP, hK, hX⟩ := hv
  have hx := B.exec
  have hb := B.bytes
  have hr := B.returns
  have hts := atoms_spec (ws := wsX1_held) B.pre
  have hown : s.vm.findClass RX1 = some m.cls := findClass_of_methodNamed B.named
  have hlocks := B.notSynchronized
  have hinX1 : ∀ w ∈ wsX10, w ∈ wsX1_held := by decide +kernel
  have hl := lv_entry ([.ref ae, .int (nI own), .int (nI oth), .int (nI rr)]) (n := 5) (Nat.le_of_ble_eq_true rfl)
  rw [lg_entry_eq]
  generalize (lg_sl ([.ref ae, .int (nI own), .int (nI oth), .int (nI rr)]) ++ List.replicate (5 - (lg_sl ([.ref ae, .int (nI own), .int (nI oth), .int (nI rr)])).length) Slot.unset).toArray = ls at hl ⊢
  have hl : lv_has ls 5 [(0, .ref ae), (1, .int (nI own)), (2, .int (nI oth)), (3, .int (nI rr))] := hl
  have hS : va_S zF s.heap s.heap [] := va_S.rf
  refine lv_iload_n hx hb dX1_held_0 rfl (lv_at hl 3 rfl) ?_
  refine lv_if_gt (tgt := 7) hx hb dX1_held_1 (by decide) (fun c_1 => ?_) (fun c_1 => ?_)
  · skip
    have c_1 : 0 < rr := (nI_ltI (a := 0) (b := rr) (by omega) (by omega)).mp c_1
    refine lv_iload_n hx hb dX1_held_7 rfl (lv_at hl 3 rfl) ?_
    refine lv_iconst (v := 1) hx hb dX1_held_8 (by decide) ?_
    refine lv_isub hx hb dX1_held_9 ?_
    refine zz_i (y := nI (rr - 1)) (pk_sub (a := rr) (b := 1) (by omega)) ?_
    refine lv_sipush (v := 225) hx hb dX1_held_10 (by decide) ?_
    refine lv_imul hx hb dX1_held_13 ?_
    refine zz_i (y := nI ((rr - 1) * 225)) (pk_mul (rr - 1) 225) ?_
    refine lv_iload_n hx hb dX1_held_14 rfl (lv_at hl 1 rfl) ?_
    refine lv_bipush (v := 15) hx hb dX1_held_15 (by decide) ?_
    refine lv_imul hx hb dX1_held_17 ?_
    refine zz_i (y := nI (own * 15)) (pk_mul own 15) ?_
    refine lv_iadd hx hb dX1_held_18 ?_
    refine zz_i (y := nI ((rr - 1) * 225 + own * 15)) (nI_add ((rr - 1) * 225) (own * 15)) ?_
    refine lv_iload_n hx hb dX1_held_19 rfl (lv_at hl 2 rfl) ?_
    refine lv_iadd hx hb dX1_held_20 ?_
    refine zz_i (y := nI ((rr - 1) * 225 + own * 15 + oth)) (nI_add ((rr - 1) * 225 + own * 15) oth) ?_
    refine lv_istore (lv' := [(4, .int (nI ((rr - 1) * 225 + own * 15 + oth))), (0, .ref ae), (1, .int (nI own)), (2, .int (nI oth)), (3, .int (nI rr))]) hx hb dX1_held_21 hl (by decide) rfl (fun ls hl => ?_)
    refine lv_iload hx hb dX1_held_23 (lv_at hl 0 rfl) ?_
    refine lv_if_lt (tgt := 38) hx hb dX1_held_25 (by decide) (fun c_25 => ?_) (fun c_25 => ?_)
    · skip
      have c_25 : ((rr - 1) * 225 + own * 15 + oth) < 0 := (nI_ltI (a := (rr - 1) * 225 + own * 15 + oth) (b := 0) (by omega) (by omega)).mp c_25
      exact absurd c_25 (Nat.not_lt_zero _)
    · skip
      have c_25 : ¬ ((rr - 1) * 225 + own * 15 + oth) < 0 := fun h9 => c_25 ((nI_ltI (a := (rr - 1) * 225 + own * 15 + oth) (b := 0) (by omega) (by omega)).mpr h9)
      refine lv_iload hx hb dX1_held_28 (lv_at hl 0 rfl) ?_
      refine lv_aload_n hx hb dX1_held_30 rfl (lv_at hl 1 rfl) ?_
      refine va_get (D := (dC, dI)) (ci := 0) (v := .ref at_) (C := RX1) (T := TX1) (N := 2) hx hb hts hinX1 hown hK hP 0 rfl rfl 0 (by decide) (hts (.fieldLink RX1 13 "RoyalUrTable$Endings" "worths" "[I") (List.mem_of_getElem? (i := 2) rfl)) (fun _ h9 => h9) rfl dX1_held_31 ?_
      refine va_alen (v := 13500) hx hb hK hP 1 0 rfl rfl rfl dX1_held_34 ?_
      refine lv_icmp_lt (tgt := 43) hx hb dX1_held_35 (by decide) (fun c_35 => ?_) (fun c_35 => ?_)
      · skip
        have c_35 : ((rr - 1) * 225 + own * 15 + oth) < 13500 := (nI_ltI (a := (rr - 1) * 225 + own * 15 + oth) (b := 13500) (by omega) (by omega)).mp c_35
        refine lv_aload_n hx hb dX1_held_43 rfl (lv_at hl 1 rfl) ?_
        refine va_get (D := (dC, dI)) (ci := 0) (v := .ref at_) (C := RX1) (T := TX1) (N := 2) hx hb hts hinX1 hown hK hP 0 rfl rfl 0 (by decide) (hts (.fieldLink RX1 13 "RoyalUrTable$Endings" "worths" "[I") (List.mem_of_getElem? (i := 2) rfl)) (fun _ h9 => h9) rfl dX1_held_44 ?_
        refine lv_iload hx hb dX1_held_47 (lv_at hl 0 rfl) ?_
        refine zi_iald hx hb hK hP 1 0 rfl rfl (j := (rr - 1) * 225 + own * 15 + oth) rfl (by omega) (by decide) dX1_held_49 ?_
        exact W.iret (v := wf ((rr - 1) * 225 + own * 15 + oth)) hx hb hr (fun t ht hW => ⟨⟨_, (), rfl, (htb rr (by omega) (by omega) own oth ho ht9), trivial⟩, hS.F ht⟩) hS.2.2 dX1_held_50
      · skip
        have c_35 : ¬ ((rr - 1) * 225 + own * 15 + oth) < 13500 := fun h9 => c_35 ((nI_ltI (a := (rr - 1) * 225 + own * 15 + oth) (b := 13500) (by omega) (by omega)).mpr h9)
        exact absurd (by omega) c_35
  · skip
    have c_1 : ¬ 0 < rr := fun h9 => c_1 ((nI_ltI (a := 0) (b := rr) (by omega) (by omega)).mpr h9)
    refine lv_ldc (v := 500000000) hx hb hown (hts (.constant RX1 31 (500000000)) (List.mem_of_getElem? (i := 1) rfl)) dX1_held_4 ?_
    exact W.iret (v := 500000000) hx hb hr (fun t ht hW => ⟨⟨_, (), rfl, (by rw [show rr = 0 by omega]; rfl), trivial⟩, hS.F ht⟩) hS.2.2 dX1_held_6

set_option maxHeartbeats 4000000 in
set_option maxRecDepth 100000 in
theorem c_X1_worthBehindThrow0 (l : Launch) (dC : Nat → ClassId) (dI : Nat → Nat → Nat) (cyI cyJ : ClassId) (tb : Nat) (ae at_ : Nat) (rh : Int32) (wf : Nat → Int32) (k : Nat) (hk : k ≤ 60) (htb : zTb k wf) (rt j : Nat) (hj : rt ≤ k) (hj2 : j ≤ 100) (hT : ∀ own oth : Nat, own < 15 → oth < 15 → Met l yX1_worthToThrow wsX1_worthToThrow ({ frames := 2 * j + 1, cells := 0, slots := 0, locals := 54 * j + 24 }) (zPc [.ref ae, .int (nI own), .int (nI oth), .int (nI (rt + j)), .int (nI rt)] (dC, dI) vwCl [(cyI, .int), (cyJ, .long)] [(ae, .inr (0, [.ref at_, .int rh])), (at_, .inl (cyI, 13500, .inl wf))] (fun U => zX tb zF U U.heap)) (va_Qi (fun (r : Int32) (_ : Unit) => r = nI (zE (rt + j) own oth)) (fun _ _ => True) zF) 0 0 zF) (own oth mm : Nat) (ho : own < 15) (ht9 : oth < 15) (hmm : mm ≤ 4) : Met l yX1_worthBehindThrow wsX1_worthBehindThrow ({ frames := 2 * j + 2, cells := 0, slots := 0, locals := 54 * j + 51 }) (zPc [.ref ae, .int (nI own), .int (nI oth), .int (nI mm), .int (nI (rt + j)), .int (nI rt)] (dC, dI) vwCl [(cyI, .int), (cyJ, .long)] [(ae, .inr (0, [.ref at_, .int rh])), (at_, .inl (cyI, 13500, .inl wf))] (fun U => zX tb zF U U.heap)) (va_Qi (fun (r : Int32) (_ : Unit) => r = nI (zEB (zE (rt + j)) own oth mm)) (fun _ _ => True) zF) 0 0 zF := by
  refine Met.ofW (cc := cX1_worthBehindThrow) (maxL := 8) (ret := (some .int)) (by decide) rfl ?_
  intro p e s m args below meth c s₁ B hml hv
  obtain ⟨rfl, hP, hK, hX⟩ := hv
  have hx := B.exec
  have hb := B.bytes
  have hr := B.returns
  have hts := atoms_spec (ws := wsX1_worthBehindThrow) B.pre
  have hown : s.vm.findClass RX1 = some m.cls := findClass_of_methodNamed B.named
  have hlocks := B.notSynchronized
  have hl := lv_entry ([.ref ae, .int (nI own), .int (nI oth), .int (nI mm), .int (nI (rt + j)), .int (nI rt)]) (n := 8) (Nat.le_of_ble_eq_true rfl)
  rw [lg_entry_eq]
  generalize (lg_sl ([.ref ae, .int (nI own), .int (nI oth), .int (nI mm), .int (nI (rt + j)), .int (nI rt)]) ++ List.replicate (8 - (lg_sl ([.ref ae, .int (nI own), .int (nI oth), .int (nI mm), .int (nI (rt + j)), .int (nI rt)])).length) Slot.unset).toArray = ls at hl ⊢
  have hl : lv_has ls 8 [(0, .ref ae), (1, .int (nI own)), (2, .int (nI oth)), (3, .int (nI mm)), (4, .int (nI (rt + j))), (5, .int (nI rt))] := hl
  have hS : va_S zF s.heap s.heap [] := va_S.rf
  refine lv_iload_n hx hb dX1_worthBehindThrow_0 rfl (lv_at hl 1 rfl) ?_
  refine lv_iload_n hx hb dX1_worthBehindThrow_1 rfl (lv_at hl 3 rfl) ?_
  refine lv_iadd hx hb dX1_worthBehindThrow_2 ?_
  refine zz_i (y := nI (own + mm)) (nI_add own mm) ?_
  refine lv_istore (lv' := [(6, .int (nI (own + mm))), (0, .ref ae), (1, .int (nI own)), (2, .int (nI oth)), (3, .int (nI mm)), (4, .int (nI (rt + j))), (5, .int (nI rt))]) hx hb dX1_worthBehindThrow_3 hl (by decide) rfl (fun ls hl => ?_)
  refine lv_iload_n hx hb dX1_worthBehindThrow_5 rfl (lv_at hl 4 rfl) ?_
  refine lv_if_eq (tgt := 29) hx hb dX1_worthBehindThrow_6 (by decide) (fun c_6 => ?_) (fun c_6 => ?_)
  · skip
    have c_6 : mm = 0 := (nI_eq (a := mm) (b := 0) (by omega) (by omega)).mp c_6
    refine lv_ldc (v := 1000000000) hx hb hown (hts (.constant RX1 56 (1000000000)) (List.mem_of_getElem? (i := 1) rfl)) dX1_worthBehindThrow_29 ?_
    refine lv_aload_n hx hb dX1_worthBehindThrow_31 rfl (lv_at hl 1 rfl) ?_
    refine lv_iload_n hx hb dX1_worthBehindThrow_32 rfl (lv_at hl 3 rfl) ?_
    refine lv_iload_n hx hb dX1_worthBehindThrow_33 rfl (lv_at hl 2 rfl) ?_
    refine lv_iload hx hb dX1_worthBehindThrow_34 (lv_at hl 5 rfl) ?_
    refine lv_iload hx hb dX1_worthBehindThrow_36 (lv_at hl 6 rfl) ?_
    refine zro_i (va_runV (As := [.int (nI oth), .int (nI own), .int (nI (rt + j)), .int (nI rt)]) (rest := [.int 1000000000]) ⟨hx, hb, hml, hown, hts⟩ (hT oth own (by omega) (by omega)) (cwV 4 hts gX1_worthBehindThrow_X1_worthToThrow rfl rfl rfl (by decide +kernel) ⟨(show (2 * j + 1) + 1 ≤ 2 * j + 2 by omega), (show 8 + (8 + 11) + (54 * j + 24) ≤ 54 * j + 51 by omega)⟩) (zPc_V (ci := 0) (q0 := 0) zB_X hP hK rfl rfl [0, 1] rfl (zX_at hX hS zF_A)) rfl rfl hl.1 rfl (lv_room (Nat.le_of_ble_eq_true rfl)) dX1_worthBehindThrow_38 ⟨Nat.zero_le _, Nat.zero_le _⟩) hP hS (fun H locs hP hS => ?_)
    have hle_38 := zE_le (rt + j) oth own
    refine lv_isub hx hb dX1_worthBehindThrow_41 ?_
    refine zz_i (y := nI (1000000000 - (zE (rt + j) oth own))) (pk_sub (a := 1000000000) (b := zE (rt + j) oth own) (by omega)) ?_
    exact W.iret (v := nI (1000000000 - (zE (rt + j) oth own))) hx hb hr (fun t ht hW => ⟨⟨_, (), rfl, (congrArg nI (by rw [zEB, if_pos c_6])), trivial⟩, hS.F ht⟩) hS.2.2 dX1_worthBehindThrow_42
  · skip
    have c_6 : ¬ mm = 0 := fun h9 => c_6 ((nI_eq (a := mm) (b := 0) (by omega) (by omega)).mpr h9)
    refine lv_iload hx hb dX1_worthBehindThrow_9 (lv_at hl 0 rfl) ?_
    refine lv_iconst (v := 0) hx hb dX1_worthBehindThrow_11 (by decide) ?_
    refine lv_iload_n hx hb dX1_worthBehindThrow_12 rfl (lv_at hl 3 rfl) ?_
    refine lv_iload hx hb dX1_worthBehindThrow_13 (lv_at hl 0 rfl) ?_
    refine lv_icmp_ne (tgt := 22) hx hb dX1_worthBehindThrow_15 (by decide) (fun c_15 => ?_) (fun c_15 => ?_)
    · skip
      have c_15 : ¬ oth = (own + mm) := fun h9 => c_15 ((nI_eq (a := oth) (b := own + mm) (by omega) (by omega)).mpr h9)
      refine lv_iconst (v := 0) hx hb dX1_worthBehindThrow_22 (by decide) ?_
      refine zro_i (va_runS (As := [.int (nI (own + mm)), .int 0, .int 0]) (rest := []) ⟨hx, hb, hml, hown, hts⟩ (c_X4_canEnter l (own + mm) (by omega) false false) (va_cwS 3 hts gX1_worthBehindThrow_X4_canEnter rfl rfl rfl (by decide +kernel) ⟨(show 0 + 1 ≤ 2 * j + 2 by omega), (show 8 + (3 + 11) + 0 ≤ 54 * j + 51 by omega)⟩) zPu rfl rfl hl.1 rfl (lv_room (Nat.le_of_ble_eq_true rfl)) dX1_worthBehindThrow_23 ⟨Nat.zero_le _, Nat.zero_le _⟩) hP hS (fun H locs hP hS => ?_)
      refine lv_if_ne (tgt := 43) hx hb dX1_worthBehindThrow_26 (by decide) (fun c_26 => ?_) (fun c_26 => ?_)
      · skip
        have c_26 := bI_1.mp c_26
        have hcl := zcen_le c_26
        refine lv_iload hx hb dX1_worthBehindThrow_43 (lv_at hl 0 rfl) ?_
        refine lv_bipush (v := 15) hx hb dX1_worthBehindThrow_45 (by decide) ?_
        refine lv_icmp_ne (tgt := 53) hx hb dX1_worthBehindThrow_47 (by decide) (fun c_47 => ?_) (fun c_47 => ?_)
        · skip
          have c_47 : ¬ (own + mm) = 15 := fun h9 => c_47 ((nI_eq (a := own + mm) (b := 15) (by omega) (by omega)).mpr h9)
          refine lv_iload_n hx hb dX1_worthBehindThrow_53 rfl (lv_at hl 3 rfl) ?_
          refine lv_iload hx hb dX1_worthBehindThrow_54 (lv_at hl 0 rfl) ?_
          refine lv_icmp_ne (tgt := 71) hx hb dX1_worthBehindThrow_56 (by decide) (fun c_56 => ?_) (fun c_56 => ?_)
          · skip
            have c_56 : ¬ oth = (own + mm) := fun h9 => c_56 ((nI_eq (a := oth) (b := own + mm) (by omega) (by omega)).mpr h9)
            refine lv_iload_n hx hb dX1_worthBehindThrow_71 rfl (lv_at hl 3 rfl) ?_
            refine lv_istore (lv' := [(7, .int (nI oth)), (6, .int (nI (own + mm))), (0, .ref ae), (1, .int (nI own)), (2, .int (nI oth)), (3, .int (nI mm)), (4, .int (nI (rt + j))), (5, .int (nI rt))]) hx hb dX1_worthBehindThrow_72 hl (by decide) rfl (fun ls hl => ?_)
            refine lv_iload hx hb dX1_worthBehindThrow_74 (lv_at hl 1 rfl) ?_
            refine zro_i (va_runS (As := [.int (nI (own + mm))]) (rest := []) ⟨hx, hb, hml, hown, hts⟩ (c_X4_isRosette l (own + mm) (by omega)) (va_cwS 1 hts gX1_worthBehindThrow_X4_isRosette rfl rfl rfl (by decide +kernel) ⟨(show 0 + 1 ≤ 2 * j + 2 by omega), (show 8 + (1 + 11) + 0 ≤ 54 * j + 51 by omega)⟩) zPu rfl rfl hl.1 rfl (lv_room (Nat.le_of_ble_eq_true rfl)) dX1_worthBehindThrow_76 ⟨Nat.zero_le _, Nat.zero_le _⟩) hP hS (fun H locs hP hS => ?_)
            refine lv_if_eq (tgt := 95) hx hb dX1_worthBehindThrow_79 (by decide) (fun c_79 => ?_) (fun c_79 => ?_)
            · skip
              have c_79 := bI_0.mp c_79
              refine lv_ldc (v := 1000000000) hx hb hown (hts (.constant RX1 56 (1000000000)) (List.mem_of_getElem? (i := 1) rfl)) dX1_worthBehindThrow_95 ?_
              refine lv_aload_n hx hb dX1_worthBehindThrow_97 rfl (lv_at hl 2 rfl) ?_
              refine lv_iload hx hb dX1_worthBehindThrow_98 (lv_at hl 0 rfl) ?_
              refine lv_iload hx hb dX1_worthBehindThrow_100 (lv_at hl 1 rfl) ?_
              refine lv_iload hx hb dX1_worthBehindThrow_102 (lv_at hl 6 rfl) ?_
              refine lv_iload hx hb dX1_worthBehindThrow_104 (lv_at hl 7 rfl) ?_
              refine zro_i (va_runV (As := [.int (nI oth), .int (nI (own + mm)), .int (nI (rt + j)), .int (nI rt)]) (rest := [.int 1000000000]) ⟨hx, hb, hml, hown, hts⟩ (hT oth (own + mm) (by omega) (by omega)) (cwV 4 hts gX1_worthBehindThrow_X1_worthToThrow rfl rfl rfl (by decide +kernel) ⟨(show (2 * j + 1) + 1 ≤ 2 * j + 2 by omega), (show 8 + (8 + 11) + (54 * j + 24) ≤ 54 * j + 51 by omega)⟩) (zPc_V (ci := 0) (q0 := 0) zB_X hP hK rfl rfl [0, 1] rfl (zX_at hX hS zF_A)) rfl rfl hl.1 rfl (lv_room (Nat.le_of_ble_eq_true rfl)) dX1_worthBehindThrow_106 ⟨Nat.zero_le _, Nat.zero_le _⟩) hP hS (fun H locs hP hS => ?_)
              have hle_106 := zE_le (rt + j) oth (own + mm)
              refine lv_isub hx hb dX1_worthBehindThrow_109 ?_
              refine zz_i (y := nI (1000000000 - (zE (rt + j) oth (own + mm)))) (pk_sub (a := 1000000000) (b := zE (rt + j) oth (own + mm)) (by omega)) ?_
              exact W.iret (v := nI (1000000000 - (zE (rt + j) oth (own + mm)))) hx hb hr (fun t ht hW => ⟨⟨_, (), rfl, (congrArg nI (by rw [zEB, if_neg c_6, if_neg (show ¬ zcen (own + mm) false (oth == own + mm) = false by rw [show (oth == own + mm) = false from (beq_eq_false_iff_ne.mpr c_15), c_26]; decide), if_neg c_47, if_neg (by rw [c_79]; decide), if_neg (fun h => c_15 h.1)])), trivial⟩, hS.F ht⟩) hS.2.2 dX1_worthBehindThrow_110
            · skip
              have c_79 := bI_1.mp c_79
              refine lv_aload_n hx hb dX1_worthBehindThrow_82 rfl (lv_at hl 2 rfl) ?_
              refine lv_iload hx hb dX1_worthBehindThrow_83 (lv_at hl 1 rfl) ?_
              refine lv_iload hx hb dX1_worthBehindThrow_85 (lv_at hl 0 rfl) ?_
              refine lv_iload hx hb dX1_worthBehindThrow_87 (lv_at hl 6 rfl) ?_
              refine lv_iload hx hb dX1_worthBehindThrow_89 (lv_at hl 7 rfl) ?_
              refine zro_i (va_runV (As := [.int (nI (own + mm)), .int (nI oth), .int (nI (rt + j)), .int (nI rt)]) (rest := []) ⟨hx, hb, hml, hown, hts⟩ (hT (own + mm) oth (by omega) (by omega)) (cwV 4 hts gX1_worthBehindThrow_X1_worthToThrow rfl rfl rfl (by decide +kernel) ⟨(show (2 * j + 1) + 1 ≤ 2 * j + 2 by omega), (show 8 + (8 + 11) + (54 * j + 24) ≤ 54 * j + 51 by omega)⟩) (zPc_V (ci := 0) (q0 := 0) zB_X hP hK rfl rfl [0, 1] rfl (zX_at hX hS zF_A)) rfl rfl hl.1 rfl (lv_room (Nat.le_of_ble_eq_true rfl)) dX1_worthBehindThrow_91 ⟨Nat.zero_le _, Nat.zero_le _⟩) hP hS (fun H locs hP hS => ?_)
              have hle_91 := zE_le (rt + j) (own + mm) oth
              exact W.iret (v := nI (zE (rt + j) (own + mm) oth)) hx hb hr (fun t ht hW => ⟨⟨_, (), rfl, (congrArg nI (by rw [zEB, if_neg c_6, if_neg (show ¬ zcen (own + mm) false (oth == own + mm) = false by rw [show (oth == own + mm) = false from (beq_eq_false_iff_ne.mpr c_15), c_26]; decide), if_neg c_47, if_pos c_79, if_neg (fun h => c_15 h.1)])), trivial⟩, hS.F ht⟩) hS.2.2 dX1_worthBehindThrow_94
          · skip
            have c_56 : oth = (own + mm) := (nI_eq (a := oth) (b := own + mm) (by omega) (by omega)).mp c_56
            exact absurd c_56 c_15
        · skip
          have c_47 : (own + mm) = 15 := (nI_eq (a := own + mm) (b := 15) (by omega) (by omega)).mp c_47
          refine lv_ldc (v := 1000000000) hx hb hown (hts (.constant RX1 56 (1000000000)) (List.mem_of_getElem? (i := 1) rfl)) dX1_worthBehindThrow_50 ?_
          exact W.iret (v := 1000000000) hx hb hr (fun t ht hW => ⟨⟨_, (), rfl, (congrArg nI (by rw [zEB, if_neg c_6, if_neg (show ¬ zcen (own + mm) false (oth == own + mm) = false by rw [show (oth == own + mm) = false from (beq_eq_false_iff_ne.mpr c_15), c_26]; decide), if_pos c_47])), trivial⟩, hS.F ht⟩) hS.2.2 dX1_worthBehindThrow_52
      · skip
        have c_26 := bI_0.mp c_26
        refine lv_ldc (v := 1000000000) hx hb hown (hts (.constant RX1 56 (1000000000)) (List.mem_of_getElem? (i := 1) rfl)) dX1_worthBehindThrow_29 ?_
        refine lv_aload_n hx hb dX1_worthBehindThrow_31 rfl (lv_at hl 1 rfl) ?_
        refine lv_iload_n hx hb dX1_worthBehindThrow_32 rfl (lv_at hl 3 rfl) ?_
        refine lv_iload_n hx hb dX1_worthBehindThrow_33 rfl (lv_at hl 2 rfl) ?_
        refine lv_iload hx hb dX1_worthBehindThrow_34 (lv_at hl 5 rfl) ?_
        refine lv_iload hx hb dX1_worthBehindThrow_36 (lv_at hl 6 rfl) ?_
        refine zro_i (va_runV (As := [.int (nI oth), .int (nI own), .int (nI (rt + j)), .int (nI rt)]) (rest := [.int 1000000000]) ⟨hx, hb, hml, hown, hts⟩ (hT oth own (by omega) (by omega)) (cwV 4 hts gX1_worthBehindThrow_X1_worthToThrow rfl rfl rfl (by decide +kernel) ⟨(show (2 * j + 1) + 1 ≤ 2 * j + 2 by omega), (show 8 + (8 + 11) + (54 * j + 24) ≤ 54 * j + 51 by omega)⟩) (zPc_V (ci := 0) (q0 := 0) zB_X hP hK rfl rfl [0, 1] rfl (zX_at hX hS zF_A)) rfl rfl hl.1 rfl (lv_room (Nat.le_of_ble_eq_true rfl)) dX1_worthBehindThrow_38 ⟨Nat.zero_le _, Nat.zero_le _⟩) hP hS (fun H locs hP hS => ?_)
        have hle_38 := zE_le (rt + j) oth own
        refine lv_isub hx hb dX1_worthBehindThrow_41 ?_
        refine zz_i (y := nI (1000000000 - (zE (rt + j) oth own))) (pk_sub (a := 1000000000) (b := zE (rt + j) oth own) (by omega)) ?_
        exact W.iret (v := nI (1000000000 - (zE (rt + j) oth own))) hx hb hr (fun t ht hW => ⟨⟨_, (), rfl, (congrArg nI (by rw [zEB, if_neg c_6, if_pos (by rw [show (oth == own + mm) = false from (beq_eq_false_iff_ne.mpr c_15)]; exact c_26)])), trivial⟩, hS.F ht⟩) hS.2.2 dX1_worthBehindThrow_42
    · skip
      have c_15 : oth = (own + mm) := (nI_eq (a := oth) (b := own + mm) (by omega) (by omega)).mp c_15
      refine lv_iconst (v := 1) hx hb dX1_worthBehindThrow_18 (by decide) ?_
      refine lv_goto (tgt := 23) hx hb dX1_worthBehindThrow_19 (by decide) ?_
      refine zro_i (va_runS (As := [.int (nI (own + mm)), .int 0, .int 1]) (rest := []) ⟨hx, hb, hml, hown, hts⟩ (c_X4_canEnter l (own + mm) (by omega) false true) (va_cwS 3 hts gX1_worthBehindThrow_X4_canEnter rfl rfl rfl (by decide +kernel) ⟨(show 0 + 1 ≤ 2 * j + 2 by omega), (show 8 + (3 + 11) + 0 ≤ 54 * j + 51 by omega)⟩) zPu rfl rfl hl.1 rfl (lv_room (Nat.le_of_ble_eq_true rfl)) dX1_worthBehindThrow_23 ⟨Nat.zero_le _, Nat.zero_le _⟩) hP hS (fun H locs hP hS => ?_)
      refine lv_if_ne (tgt := 43) hx hb dX1_worthBehindThrow_26 (by decide) (fun c_26 => ?_) (fun c_26 => ?_)
      · skip
        have c_26 := bI_1.mp c_26
        have hcl := zcen_le c_26
        refine lv_iload hx hb dX1_worthBehindThrow_43 (lv_at hl 0 rfl) ?_
        refine lv_bipush (v := 15) hx hb dX1_worthBehindThrow_45 (by decide) ?_
        refine lv_icmp_ne (tgt := 53) hx hb dX1_worthBehindThrow_47 (by decide) (fun c_47 => ?_) (fun c_47 => ?_)
        · skip
          have c_47 : ¬ (own + mm) = 15 := fun h9 => c_47 ((nI_eq (a := own + mm) (b := 15) (by omega) (by omega)).mpr h9)
          refine lv_iload_n hx hb dX1_worthBehindThrow_53 rfl (lv_at hl 3 rfl) ?_
          refine lv_iload hx hb dX1_worthBehindThrow_54 (lv_at hl 0 rfl) ?_
          refine lv_icmp_ne (tgt := 71) hx hb dX1_worthBehindThrow_56 (by decide) (fun c_56 => ?_) (fun c_56 => ?_)
          · skip
            have c_56 : ¬ oth = (own + mm) := fun h9 => c_56 ((nI_eq (a := oth) (b := own + mm) (by omega) (by omega)).mpr h9)
            exact absurd c_15 c_56
          · skip
            have c_56 : oth = (own + mm) := (nI_eq (a := oth) (b := own + mm) (by omega) (by omega)).mp c_56
            refine lv_iload hx hb dX1_worthBehindThrow_59 (lv_at hl 0 rfl) ?_
            refine zro_i (va_runS (As := [.int (nI (own + mm))]) (rest := []) ⟨hx, hb, hml, hown, hts⟩ (c_X4_isShared l (own + mm) (by omega)) (va_cwS 1 hts gX1_worthBehindThrow_X4_isShared rfl rfl rfl (by decide +kernel) ⟨(show 0 + 1 ≤ 2 * j + 2 by omega), (show 8 + (1 + 11) + 0 ≤ 54 * j + 51 by omega)⟩) zPu rfl rfl hl.1 rfl (lv_room (Nat.le_of_ble_eq_true rfl)) dX1_worthBehindThrow_61 ⟨Nat.zero_le _, Nat.zero_le _⟩) hP hS (fun H locs hP hS => ?_)
            refine lv_if_eq (tgt := 71) hx hb dX1_worthBehindThrow_64 (by decide) (fun c_64 => ?_) (fun c_64 => ?_)
            · skip
              have c_64 := bI_0.mp c_64
              refine lv_iload_n hx hb dX1_worthBehindThrow_71 rfl (lv_at hl 3 rfl) ?_
              refine lv_istore (lv' := [(7, .int (nI oth)), (6, .int (nI (own + mm))), (0, .ref ae), (1, .int (nI own)), (2, .int (nI oth)), (3, .int (nI mm)), (4, .int (nI (rt + j))), (5, .int (nI rt))]) hx hb dX1_worthBehindThrow_72 hl (by decide) rfl (fun ls hl => ?_)
              refine lv_iload hx hb dX1_worthBehindThrow_74 (lv_at hl 1 rfl) ?_
              refine zro_i (va_runS (As := [.int (nI (own + mm))]) (rest := []) ⟨hx, hb, hml, hown, hts⟩ (c_X4_isRosette l (own + mm) (by omega)) (va_cwS 1 hts gX1_worthBehindThrow_X4_isRosette rfl rfl rfl (by decide +kernel) ⟨(show 0 + 1 ≤ 2 * j + 2 by omega), (show 8 + (1 + 11) + 0 ≤ 54 * j + 51 by omega)⟩) zPu rfl rfl hl.1 rfl (lv_room (Nat.le_of_ble_eq_true rfl)) dX1_worthBehindThrow_76 ⟨Nat.zero_le _, Nat.zero_le _⟩) hP hS (fun H locs hP hS => ?_)
              refine lv_if_eq (tgt := 95) hx hb dX1_worthBehindThrow_79 (by decide) (fun c_79 => ?_) (fun c_79 => ?_)
              · skip
                have c_79 := bI_0.mp c_79
                refine lv_ldc (v := 1000000000) hx hb hown (hts (.constant RX1 56 (1000000000)) (List.mem_of_getElem? (i := 1) rfl)) dX1_worthBehindThrow_95 ?_
                refine lv_aload_n hx hb dX1_worthBehindThrow_97 rfl (lv_at hl 2 rfl) ?_
                refine lv_iload hx hb dX1_worthBehindThrow_98 (lv_at hl 0 rfl) ?_
                refine lv_iload hx hb dX1_worthBehindThrow_100 (lv_at hl 1 rfl) ?_
                refine lv_iload hx hb dX1_worthBehindThrow_102 (lv_at hl 6 rfl) ?_
                refine lv_iload hx hb dX1_worthBehindThrow_104 (lv_at hl 7 rfl) ?_
                refine zro_i (va_runV (As := [.int (nI oth), .int (nI (own + mm)), .int (nI (rt + j)), .int (nI rt)]) (rest := [.int 1000000000]) ⟨hx, hb, hml, hown, hts⟩ (hT oth (own + mm) (by omega) (by omega)) (cwV 4 hts gX1_worthBehindThrow_X1_worthToThrow rfl rfl rfl (by decide +kernel) ⟨(show (2 * j + 1) + 1 ≤ 2 * j + 2 by omega), (show 8 + (8 + 11) + (54 * j + 24) ≤ 54 * j + 51 by omega)⟩) (zPc_V (ci := 0) (q0 := 0) zB_X hP hK rfl rfl [0, 1] rfl (zX_at hX hS zF_A)) rfl rfl hl.1 rfl (lv_room (Nat.le_of_ble_eq_true rfl)) dX1_worthBehindThrow_106 ⟨Nat.zero_le _, Nat.zero_le _⟩) hP hS (fun H locs hP hS => ?_)
                have hle_106 := zE_le (rt + j) oth (own + mm)
                refine lv_isub hx hb dX1_worthBehindThrow_109 ?_
                refine zz_i (y := nI (1000000000 - (zE (rt + j) oth (own + mm)))) (pk_sub (a := 1000000000) (b := zE (rt + j) oth (own + mm)) (by omega)) ?_
                exact W.iret (v := nI (1000000000 - (zE (rt + j) oth (own + mm)))) hx hb hr (fun t ht hW => ⟨⟨_, (), rfl, (congrArg nI (by rw [zEB, if_neg c_6, if_neg (show ¬ zcen (own + mm) false (oth == own + mm) = false by rw [show (oth == own + mm) = true from (beq_iff_eq.mpr c_15), c_26]; decide), if_neg c_47, if_neg (by rw [c_79]; decide), if_neg (fun h => by rw [h.2] at c_64; cases c_64)])), trivial⟩, hS.F ht⟩) hS.2.2 dX1_worthBehindThrow_110
              · skip
                have c_79 := bI_1.mp c_79
                refine lv_aload_n hx hb dX1_worthBehindThrow_82 rfl (lv_at hl 2 rfl) ?_
                refine lv_iload hx hb dX1_worthBehindThrow_83 (lv_at hl 1 rfl) ?_
                refine lv_iload hx hb dX1_worthBehindThrow_85 (lv_at hl 0 rfl) ?_
                refine lv_iload hx hb dX1_worthBehindThrow_87 (lv_at hl 6 rfl) ?_
                refine lv_iload hx hb dX1_worthBehindThrow_89 (lv_at hl 7 rfl) ?_
                refine zro_i (va_runV (As := [.int (nI (own + mm)), .int (nI oth), .int (nI (rt + j)), .int (nI rt)]) (rest := []) ⟨hx, hb, hml, hown, hts⟩ (hT (own + mm) oth (by omega) (by omega)) (cwV 4 hts gX1_worthBehindThrow_X1_worthToThrow rfl rfl rfl (by decide +kernel) ⟨(show (2 * j + 1) + 1 ≤ 2 * j + 2 by omega), (show 8 + (8 + 11) + (54 * j + 24) ≤ 54 * j + 51 by omega)⟩) (zPc_V (ci := 0) (q0 := 0) zB_X hP hK rfl rfl [0, 1] rfl (zX_at hX hS zF_A)) rfl rfl hl.1 rfl (lv_room (Nat.le_of_ble_eq_true rfl)) dX1_worthBehindThrow_91 ⟨Nat.zero_le _, Nat.zero_le _⟩) hP hS (fun H locs hP hS => ?_)
                have hle_91 := zE_le (rt + j) (own + mm) oth
                exact W.iret (v := nI (zE (rt + j) (own + mm) oth)) hx hb hr (fun t ht hW => ⟨⟨_, (), rfl, (congrArg nI (by rw [zEB, if_neg c_6, if_neg (show ¬ zcen (own + mm) false (oth == own + mm) = false by rw [show (oth == own + mm) = true from (beq_iff_eq.mpr c_15), c_26]; decide), if_neg c_47, if_pos c_79, if_neg (fun h => by rw [h.2] at c_64; cases c_64)])), trivial⟩, hS.F ht⟩) hS.2.2 dX1_worthBehindThrow_94
            · skip
              have c_64 := bI_1.mp c_64
              refine lv_iconst (v := 0) hx hb dX1_worthBehindThrow_67 (by decide) ?_
              refine lv_goto (tgt := 72) hx hb dX1_worthBehindThrow_68 (by decide) ?_
              refine lv_istore (lv' := [(7, .int 0), (6, .int (nI (own + mm))), (0, .ref ae), (1, .int (nI own)), (2, .int (nI oth)), (3, .int (nI mm)), (4, .int (nI (rt + j))), (5, .int (nI rt))]) hx hb dX1_worthBehindThrow_72 hl (by decide) rfl (fun ls hl => ?_)
              refine lv_iload hx hb dX1_worthBehindThrow_74 (lv_at hl 1 rfl) ?_
              refine zro_i (va_runS (As := [.int (nI (own + mm))]) (rest := []) ⟨hx, hb, hml, hown, hts⟩ (c_X4_isRosette l (own + mm) (by omega)) (va_cwS 1 hts gX1_worthBehindThrow_X4_isRosette rfl rfl rfl (by decide +kernel) ⟨(show 0 + 1 ≤ 2 * j + 2 by omega), (show 8 + (1 + 11) + 0 ≤ 54 * j + 51 by omega)⟩) zPu rfl rfl hl.1 rfl (lv_room (Nat.le_of_ble_eq_true rfl)) dX1_worthBehindThrow_76 ⟨Nat.zero_le _, Nat.zero_le _⟩) hP hS (fun H locs hP hS => ?_)
              refine lv_if_eq (tgt := 95) hx hb dX1_worthBehindThrow_79 (by decide) (fun c_79 => ?_) (fun c_79 => ?_)
              · skip
                have c_79 := bI_0.mp c_79
                refine lv_ldc (v := 1000000000) hx hb hown (hts (.constant RX1 56 (1000000000)) (List.mem_of_getElem? (i := 1) rfl)) dX1_worthBehindThrow_95 ?_
                refine lv_aload_n hx hb dX1_worthBehindThrow_97 rfl (lv_at hl 2 rfl) ?_
                refine lv_iload hx hb dX1_worthBehindThrow_98 (lv_at hl 0 rfl) ?_
                refine lv_iload hx hb dX1_worthBehindThrow_100 (lv_at hl 1 rfl) ?_
                refine lv_iload hx hb dX1_worthBehindThrow_102 (lv_at hl 6 rfl) ?_
                refine lv_iload hx hb dX1_worthBehindThrow_104 (lv_at hl 7 rfl) ?_
                refine zro_i (va_runV (As := [.int 0, .int (nI (own + mm)), .int (nI (rt + j)), .int (nI rt)]) (rest := [.int 1000000000]) ⟨hx, hb, hml, hown, hts⟩ (hT 0 (own + mm) (by omega) (by omega)) (cwV 4 hts gX1_worthBehindThrow_X1_worthToThrow rfl rfl rfl (by decide +kernel) ⟨(show (2 * j + 1) + 1 ≤ 2 * j + 2 by omega), (show 8 + (8 + 11) + (54 * j + 24) ≤ 54 * j + 51 by omega)⟩) (zPc_V (ci := 0) (q0 := 0) zB_X hP hK rfl rfl [0, 1] rfl (zX_at hX hS zF_A)) rfl rfl hl.1 rfl (lv_room (Nat.le_of_ble_eq_true rfl)) dX1_worthBehindThrow_106 ⟨Nat.zero_le _, Nat.zero_le _⟩) hP hS (fun H locs hP hS => ?_)
                have hle_106 := zE_le (rt + j) 0 (own + mm)
                refine lv_isub hx hb dX1_worthBehindThrow_109 ?_
                refine zz_i (y := nI (1000000000 - (zE (rt + j) 0 (own + mm)))) (pk_sub (a := 1000000000) (b := zE (rt + j) 0 (own + mm)) (by omega)) ?_
                exact W.iret (v := nI (1000000000 - (zE (rt + j) 0 (own + mm)))) hx hb hr (fun t ht hW => ⟨⟨_, (), rfl, (congrArg nI (by rw [zEB, if_neg c_6, if_neg (show ¬ zcen (own + mm) false (oth == own + mm) = false by rw [show (oth == own + mm) = true from (beq_iff_eq.mpr c_15), c_26]; decide), if_neg c_47, if_neg (by rw [c_79]; decide), if_pos ⟨c_15, c_64⟩])), trivial⟩, hS.F ht⟩) hS.2.2 dX1_worthBehindThrow_110
              · skip
                have c_79 := bI_1.mp c_79
                refine lv_aload_n hx hb dX1_worthBehindThrow_82 rfl (lv_at hl 2 rfl) ?_
                refine lv_iload hx hb dX1_worthBehindThrow_83 (lv_at hl 1 rfl) ?_
                refine lv_iload hx hb dX1_worthBehindThrow_85 (lv_at hl 0 rfl) ?_
                refine lv_iload hx hb dX1_worthBehindThrow_87 (lv_at hl 6 rfl) ?_
                refine lv_iload hx hb dX1_worthBehindThrow_89 (lv_at hl 7 rfl) ?_
                refine zro_i (va_runV (As := [.int (nI (own + mm)), .int 0, .int (nI (rt + j)), .int (nI rt)]) (rest := []) ⟨hx, hb, hml, hown, hts⟩ (hT (own + mm) 0 (by omega) (by omega)) (cwV 4 hts gX1_worthBehindThrow_X1_worthToThrow rfl rfl rfl (by decide +kernel) ⟨(show (2 * j + 1) + 1 ≤ 2 * j + 2 by omega), (show 8 + (8 + 11) + (54 * j + 24) ≤ 54 * j + 51 by omega)⟩) (zPc_V (ci := 0) (q0 := 0) zB_X hP hK rfl rfl [0, 1] rfl (zX_at hX hS zF_A)) rfl rfl hl.1 rfl (lv_room (Nat.le_of_ble_eq_true rfl)) dX1_worthBehindThrow_91 ⟨Nat.zero_le _, Nat.zero_le _⟩) hP hS (fun H locs hP hS => ?_)
                have hle_91 := zE_le (rt + j) (own + mm) 0
                exact W.iret (v := nI (zE (rt + j) (own + mm) 0)) hx hb hr (fun t ht hW => ⟨⟨_, (), rfl, (congrArg nI (by rw [zEB, if_neg c_6, if_neg (show ¬ zcen (own + mm) false (oth == own + mm) = false by rw [show (oth == own + mm) = true from (beq_iff_eq.mpr c_15), c_26]; decide), if_neg c_47, if_pos c_79, if_pos ⟨c_15, c_64⟩])), trivial⟩, hS.F ht⟩) hS.2.2 dX1_worthBehindThrow_94
        · skip
          have c_47 : (own + mm) = 15 := (nI_eq (a := own + mm) (b := 15) (by omega) (by omega)).mp c_47
          refine lv_ldc (v := 1000000000) hx hb hown (hts (.constant RX1 56 (1000000000)) (List.mem_of_getElem? (i := 1) rfl)) dX1_worthBehindThrow_50 ?_
          exact W.iret (v := 1000000000) hx hb hr (fun t ht hW => ⟨⟨_, (), rfl, (congrArg nI (by rw [zEB, if_neg c_6, if_neg (show ¬ zcen (own + mm) false (oth == own + mm) = false by rw [show (oth == own + mm) = true from (beq_iff_eq.mpr c_15), c_26]; decide), if_pos c_47])), trivial⟩, hS.F ht⟩) hS.2.2 dX1_worthBehindThrow_52
      · skip
        have c_26 := bI_0.mp c_26
        refine lv_ldc (v := 1000000000) hx hb hown (hts (.constant RX1 56 (1000000000)) (List.mem_of_getElem? (i := 1) rfl)) dX1_worthBehindThrow_29 ?_
        refine lv_aload_n hx hb dX1_worthBehindThrow_31 rfl (lv_at hl 1 rfl) ?_
        refine lv_iload_n hx hb dX1_worthBehindThrow_32 rfl (lv_at hl 3 rfl) ?_
        refine lv_iload_n hx hb dX1_worthBehindThrow_33 rfl (lv_at hl 2 rfl) ?_
        refine lv_iload hx hb dX1_worthBehindThrow_34 (lv_at hl 5 rfl) ?_
        refine lv_iload hx hb dX1_worthBehindThrow_36 (lv_at hl 6 rfl) ?_
        refine zro_i (va_runV (As := [.int (nI oth), .int (nI own), .int (nI (rt + j)), .int (nI rt)]) (rest := [.int 1000000000]) ⟨hx, hb, hml, hown, hts⟩ (hT oth own (by omega) (by omega)) (cwV 4 hts gX1_worthBehindThrow_X1_worthToThrow rfl rfl rfl (by decide +kernel) ⟨(show (2 * j + 1) + 1 ≤ 2 * j + 2 by omega), (show 8 + (8 + 11) + (54 * j + 24) ≤ 54 * j + 51 by omega)⟩) (zPc_V (ci := 0) (q0 := 0) zB_X hP hK rfl rfl [0, 1] rfl (zX_at hX hS zF_A)) rfl rfl hl.1 rfl (lv_room (Nat.le_of_ble_eq_true rfl)) dX1_worthBehindThrow_38 ⟨Nat.zero_le _, Nat.zero_le _⟩) hP hS (fun H locs hP hS => ?_)
        have hle_38 := zE_le (rt + j) oth own
        refine lv_isub hx hb dX1_worthBehindThrow_41 ?_
        refine zz_i (y := nI (1000000000 - (zE (rt + j) oth own))) (pk_sub (a := 1000000000) (b := zE (rt + j) oth own) (by omega)) ?_
        exact W.iret (v := nI (1000000000 - (zE (rt + j) oth own))) hx hb hr (fun t ht hW => ⟨⟨_, (), rfl, (congrArg nI (by rw [zEB, if_neg c_6, if_pos (by rw [show (oth == own + mm) = true from (beq_iff_eq.mpr c_15)]; exact c_26)])), trivial⟩, hS.F ht⟩) hS.2.2 dX1_worthBehindThrow_42

set_option maxHeartbeats 4000000 in
set_option maxRecDepth 100000 in
theorem c_X1_worthToThrow0 (l : Launch) (dC : Nat → ClassId) (dI : Nat → Nat → Nat) (cyI cyJ : ClassId) (tb : Nat) (ae at_ : Nat) (rh : Int32) (wf : Nat → Int32) (k : Nat) (hk : k ≤ 60) (htb : zTb k wf) (rt : Nat) (hj : rt ≤ k) (own oth : Nat) (ho : own < 15) (ht9 : oth < 15) : Met l yX1_worthToThrow wsX1_worthToThrow ({ frames := 1, cells := 0, slots := 0, locals := 24 }) (zPc [.ref ae, .int (nI own), .int (nI oth), .int (nI rt), .int (nI rt)] (dC, dI) vwCl [(cyI, .int), (cyJ, .long)] [(ae, .inr (0, [.ref at_, .int rh])), (at_, .inl (cyI, 13500, .inl wf))] (fun U => zX tb zF U U.heap)) (va_Qi (fun (r : Int32) (_ : Unit) => r = nI (zE rt own oth)) (fun _ _ => True) zF) 0 0 zF := by
  refine Met.ofW (cc := cX1_worthToThrow) (maxL := 8) (ret := (some .int)) (by decide) rfl ?_
  intro p e s m args below meth c s₁ B hml hv
  obtain ⟨rfl, hP, hK, hX⟩ := hv
  have hx := B.exec
  have hb := B.bytes
  have hr := B.returns
  have hts := atoms_spec (ws := wsX1_worthToThrow) B.pre
  have hown : s.vm.findClass RX1 = some m.cls := findClass_of_methodNamed B.named
  have hlocks := B.notSynchronized
  have hl := lv_entry ([.ref ae, .int (nI own), .int (nI oth), .int (nI rt), .int (nI rt)]) (n := 8) (Nat.le_of_ble_eq_true rfl)
  rw [lg_entry_eq]
  generalize (lg_sl ([.ref ae, .int (nI own), .int (nI oth), .int (nI rt), .int (nI rt)]) ++ List.replicate (8 - (lg_sl ([.ref ae, .int (nI own), .int (nI oth), .int (nI rt), .int (nI rt)])).length) Slot.unset).toArray = ls at hl ⊢
  have hl : lv_has ls 8 [(0, .ref ae), (1, .int (nI own)), (2, .int (nI oth)), (3, .int (nI rt)), (4, .int (nI rt))] := hl
  have hS : va_S zF s.heap s.heap [] := va_S.rf
  generalize hQe : MQ below _ _ _ _ _ _ = Q
  refine lv_iload_n hx hb dX1_worthToThrow_0 rfl (lv_at hl 3 rfl) ?_
  refine lv_iload hx hb dX1_worthToThrow_1 (lv_at hl 4 rfl) ?_
  refine lv_icmp_gt (tgt := 14) hx hb dX1_worthToThrow_3 (by decide) (fun c_3 => ?_) (fun c_3 => ?_)
  · skip
    have c_3 : rt < rt := (nI_ltI (a := rt) (b := rt) (by omega) (by omega)).mp c_3
    exact absurd c_3 (Nat.lt_irrefl _)
  · skip
    have c_3 : ¬ rt < rt := fun h9 => c_3 ((nI_ltI (a := rt) (b := rt) (by omega) (by omega)).mpr h9)
    refine lv_aload_n hx hb dX1_worthToThrow_6 rfl (lv_at hl 0 rfl) ?_
    refine lv_iload_n hx hb dX1_worthToThrow_7 rfl (lv_at hl 1 rfl) ?_
    refine lv_iload_n hx hb dX1_worthToThrow_8 rfl (lv_at hl 2 rfl) ?_
    refine lv_iload_n hx hb dX1_worthToThrow_9 rfl (lv_at hl 3 rfl) ?_
    refine zro_i (va_runV (As := [.int (nI own), .int (nI oth), .int (nI rt)]) (rest := []) ⟨hx, hb, hml, hown, hts⟩ (c_X1_held l dC dI cyI cyJ ae at_ rh wf k hk htb own oth rt (by omega) (by omega) (by omega)) (cwV 3 hts gX1_worthToThrow_X1_held rfl rfl rfl (by decide +kernel) ⟨(show 0 + 1 ≤ 1 by omega), (show 8 + (5 + 11) + 0 ≤ 24 by omega)⟩) (zPc_V (ci := 0) (q0 := 0) zB_T hP hK rfl rfl [0, 1] rfl (fun _ _ _ => trivial)) rfl rfl hl.1 rfl (lv_room (Nat.le_of_ble_eq_true rfl)) dX1_worthToThrow_10 ⟨Nat.zero_le _, Nat.zero_le _⟩) hP hS (fun H locs hP hS => ?_)
    subst hQe
    exact W.iret (v := nI (zE rt own oth)) hx hb hr (fun t ht hW => ⟨⟨_, (), rfl, rfl, trivial⟩, hS.F ht⟩) hS.2.2 dX1_worthToThrow_13

set_option maxHeartbeats 4000000 in
set_option maxRecDepth 100000 in
theorem c_X1_worthToThrow1 (l : Launch) (dC : Nat → ClassId) (dI : Nat → Nat → Nat) (cyI cyJ : ClassId) (tb : Nat) (ae at_ : Nat) (rh : Int32) (wf : Nat → Int32) (k : Nat) (hk : k ≤ 60) (htb : zTb k wf) (rt j : Nat) (hj : rt ≤ k) (hj2 : j ≤ 100) (hB : ∀ own oth mm : Nat, own < 15 → oth < 15 → mm ≤ 4 → Met l yX1_worthBehindThrow wsX1_worthBehindThrow ({ frames := 2 * j + 2, cells := 0, slots := 0, locals := 54 * j + 51 }) (zPc [.ref ae, .int (nI own), .int (nI oth), .int (nI mm), .int (nI (rt + j)), .int (nI rt)] (dC, dI) vwCl [(cyI, .int), (cyJ, .long)] [(ae, .inr (0, [.ref at_, .int rh])), (at_, .inl (cyI, 13500, .inl wf))] (fun U => zX tb zF U U.heap)) (va_Qi (fun (r : Int32) (_ : Unit) => r = nI (zEB (zE (rt + j)) own oth mm)) (fun _ _ => True) zF) 0 0 zF) (own oth : Nat) (ho : own < 15) (ht9 : oth < 15) : Met l yX1_worthToThrow wsX1_worthToThrow ({ frames := 2 * (j + 1) + 1, cells := 0, slots := 0, locals := 54 * (j + 1) + 24 }) (zPc [.ref ae, .int (nI own), .int (nI oth), .int (nI (rt + (j + 1))), .int (nI rt)] (dC, dI) vwCl [(cyI, .int), (cyJ, .long)] [(ae, .inr (0, [.ref at_, .int rh])), (at_, .inl (cyI, 13500, .inl wf))] (fun U => zX tb zF U U.heap)) (va_Qi (fun (r : Int32) (_ : Unit) => r = nI (zE (rt + (j + 1)) own oth)) (fun _ _ => True) zF) 0 0 zF := by
  refine Met.ofW (cc := cX1_worthToThrow) (maxL := 8) (ret := (some .int)) (by decide) rfl ?_
  intro p e s m args below meth c s₁ B hml hv
  obtain ⟨rfl, hP, hK, hX⟩ := hv
  have hx := B.exec
  have hb := B.bytes
  have hr := B.returns
  have hts := atoms_spec (ws := wsX1_worthToThrow) B.pre
  have hown : s.vm.findClass RX1 = some m.cls := findClass_of_methodNamed B.named
  have hlocks := B.notSynchronized
  have hl := lv_entry ([.ref ae, .int (nI own), .int (nI oth), .int (nI (rt + (j + 1))), .int (nI rt)]) (n := 8) (Nat.le_of_ble_eq_true rfl)
  rw [lg_entry_eq]
  generalize (lg_sl ([.ref ae, .int (nI own), .int (nI oth), .int (nI (rt + (j + 1))), .int (nI rt)]) ++ List.replicate (8 - (lg_sl ([.ref ae, .int (nI own), .int (nI oth), .int (nI (rt + (j + 1))), .int (nI rt)])).length) Slot.unset).toArray = ls at hl ⊢
  have hl : lv_has ls 8 [(0, .ref ae), (1, .int (nI own)), (2, .int (nI oth)), (3, .int (nI (rt + (j + 1)))), (4, .int (nI rt))] := hl
  have hS : va_S zF s.heap s.heap [] := va_S.rf
  generalize hQe : MQ below _ _ _ _ _ _ = Q
  refine lv_iload_n hx hb dX1_worthToThrow_0 rfl (lv_at hl 3 rfl) ?_
  refine lv_iload hx hb dX1_worthToThrow_1 (lv_at hl 4 rfl) ?_
  refine lv_icmp_gt (tgt := 14) hx hb dX1_worthToThrow_3 (by decide) (fun c_3 => ?_) (fun c_3 => ?_)
  · skip
    have c_3 : rt < (rt + (j + 1)) := (nI_ltI (a := rt) (b := rt + (j + 1)) (by omega) (by omega)).mp c_3
    have hfl : ∀ m, m ≤ 4 → (zEB (zE (rt + j)) own oth) m ≤ 1000000000 := fun m _ => zEB_le (zE_le _) _ _ _
    refine lv_lconst (v := 0) hx hb dX1_worthToThrow_14 (by decide) ?_
    refine lv_lstore (lv' := [(5, .long 0), (0, .ref ae), (1, .int (nI own)), (2, .int (nI oth)), (3, .int (nI (rt + (j + 1)))), (4, .int (nI rt))]) hx hb dX1_worthToThrow_15 hl (by decide) rfl (fun ls hl => ?_)
    refine lv_iconst (v := 0) hx hb dX1_worthToThrow_17 (by decide) ?_
    refine lv_istore (lv' := [(7, .int 0), (5, .long 0), (0, .ref ae), (1, .int (nI own)), (2, .int (nI oth)), (3, .int (nI (rt + (j + 1)))), (4, .int (nI rt))]) hx hb dX1_worthToThrow_18 hl (by decide) rfl (fun ls hl => ?_)
    have lp : ∀ (n9 : Nat) (i : Nat) (sv : Int64), i ≤ 5 → sv = lN (zsm (zEB (zE (rt + j)) own oth) i) → 5 - i < n9 → ∀ (H : Heap) (locs : List Loc), va_P (dC, dI) vwCl [(ae, .inr (0, [.ref at_, .int rh])), (at_, .inl (cyI, 13500, .inl wf))] H → va_S zF s.heap H locs → ∀ ls : Array Slot, lv_has ls 8 [(7, .int (nI i)), (5, .long sv), (0, .ref ae), (1, .int (nI own)), (2, .int (nI oth)), (3, .int (nI (rt + (j + 1)))), (4, .int (nI rt))] → W p l e (headSpec wsX1_worthToThrow ({ frames := 2 * (j + 1) + 1, cells := 0, slots := 0, locals := 54 * (j + 1) + 24 })).room s m ([.ref ae, .int (nI own), .int (nI oth), .int (nI (rt + (j + 1))), .int (nI rt)] : List Value).toArray below meth c H locs 0 0 Q (F0 m 20 ls []) := by
      intro n9
      induction n9 with
      | zero => intro i sv hi2 hsv hm9; exact absurd hm9 (Nat.not_lt_zero _)
      | succ n9 ih20 =>
        intro i sv hi2 hsv hm9 H locs hP hS ls hl
        refine lv_iload hx hb dX1_worthToThrow_20 (lv_at hl 0 rfl) ?_
        refine lv_iconst (v := 4) hx hb dX1_worthToThrow_22 (by decide) ?_
        refine lv_icmp_gt (tgt := 58) hx hb dX1_worthToThrow_23 (by decide) (fun c_23 => ?_) (fun c_23 => ?_)
        · skip
          have c_23 : 4 < i := (nI_ltI (a := 4) (b := i) (by omega) (by omega)).mp c_23
          refine lv_lload hx hb dX1_worthToThrow_58 (lv_at hl 1 rfl) ?_
          refine lv_ldc2 (v := 16) hx hb hown (hts (.constantLong RX1 50 (16)) (List.mem_of_getElem? (i := 1) rfl)) dX1_worthToThrow_60 ?_
          refine lv_ldiv hx hb dX1_worthToThrow_63 (by decide) ?_
          refine zz_l (y := lN (zsm (zEB (zE (rt + j)) own oth) 5 / 16)) (by rw [hsv, show i = 5 by omega]; exact zdiv16 (zsm_le hfl 5 (by omega))) ?_
          refine lv_l2i (v := (lN (zsm (zEB (zE (rt + j)) own oth) 5 / 16) : Int64).toInt32) hx hb dX1_worthToThrow_64 rfl ?_
          refine zz_i (y := nI (zsm (zEB (zE (rt + j)) own oth) 5 / 16)) (lN_i _) ?_
          subst hQe
          exact W.iret (v := nI (zsm (zEB (zE (rt + j)) own oth) 5 / 16)) hx hb hr (fun t ht hW => ⟨⟨_, (), rfl, rfl, trivial⟩, hS.F ht⟩) hS.2.2 dX1_worthToThrow_65
        · skip
          have c_23 : ¬ 4 < i := fun h9 => c_23 ((nI_ltI (a := 4) (b := i) (by omega) (by omega)).mpr h9)
          refine lv_lload hx hb dX1_worthToThrow_26 (lv_at hl 1 rfl) ?_
          refine lv_iload hx hb dX1_worthToThrow_28 (lv_at hl 0 rfl) ?_
          refine zro_i (va_runS (As := [.int (nI i)]) (rest := [.long sv]) ⟨hx, hb, hml, hown, hts⟩ (c_X0_timesIn16 l tb i (by omega)) (va_cwS 1 hts gX1_worthToThrow_X0_timesIn16 rfl rfl rfl (by decide +kernel) ⟨(show 0 + 1 ≤ 2 * (j + 1) + 1 by omega), (show 8 + (1 + 11) + 0 ≤ 54 * (j + 1) + 24 by omega)⟩) (zPx zB_X (zX_at hX hS zF_A)) rfl rfl hl.1 rfl (lv_room (Nat.le_of_ble_eq_true rfl)) dX1_worthToThrow_30 ⟨Nat.zero_le _, Nat.zero_le _⟩) hP hS (fun H locs hP hS => ?_)
          refine lv_i2l (v := (nI (ztm i) : Int32).toInt64) hx hb dX1_worthToThrow_33 rfl ?_
          refine zz_l (y := lN (ztm i)) (ztm_l i) ?_
          refine lv_aload_n hx hb dX1_worthToThrow_34 rfl (lv_at hl 2 rfl) ?_
          refine lv_iload_n hx hb dX1_worthToThrow_35 rfl (lv_at hl 3 rfl) ?_
          refine lv_iload_n hx hb dX1_worthToThrow_36 rfl (lv_at hl 4 rfl) ?_
          refine lv_iload hx hb dX1_worthToThrow_37 (lv_at hl 0 rfl) ?_
          refine lv_iload_n hx hb dX1_worthToThrow_39 rfl (lv_at hl 5 rfl) ?_
          refine lv_iconst (v := 1) hx hb dX1_worthToThrow_40 (by decide) ?_
          refine lv_isub hx hb dX1_worthToThrow_41 ?_
          refine zz_i (y := nI (rt + j)) (nI_pred (rt + j)) ?_
          refine lv_iload hx hb dX1_worthToThrow_42 (lv_at hl 6 rfl) ?_
          refine zro_i (va_runV (As := [.int (nI own), .int (nI oth), .int (nI i), .int (nI (rt + j)), .int (nI rt)]) (rest := [.long (lN (ztm i)), .long sv]) ⟨hx, hb, hml, hown, hts⟩ (hB own oth i (by omega) (by omega) (by omega)) (cwV 5 hts gX1_worthToThrow_X1_worthBehindThrow rfl rfl rfl (by decide +kernel) ⟨(show (2 * j + 2) + 1 ≤ 2 * (j + 1) + 1 by omega), (show 8 + (8 + 11) + (54 * j + 51) ≤ 54 * (j + 1) + 24 by omega)⟩) (zPc_V (ci := 0) (q0 := 0) zB_X hP hK rfl rfl [0, 1] rfl (zX_at hX hS zF_A)) rfl rfl hl.1 rfl (lv_room (Nat.le_of_ble_eq_true rfl)) dX1_worthToThrow_44 ⟨Nat.zero_le _, Nat.zero_le _⟩) hP hS (fun H locs hP hS => ?_)
          refine lv_i2l (v := (nI (zEB (zE (rt + j)) own oth i) : Int32).toInt64) hx hb dX1_worthToThrow_47 rfl ?_
          refine zz_l (y := lN ((zEB (zE (rt + j)) own oth) i)) (nI_lw (hfl i (by omega))) ?_
          refine lv_lmul hx hb dX1_worthToThrow_48 ?_
          refine lv_ladd hx hb dX1_worthToThrow_49 ?_
          refine zz_l (y := lN (zsm (zEB (zE (rt + j)) own oth) (i + 1))) (by rw [hsv]; exact zsm_s (zEB (zE (rt + j)) own oth) i) ?_
          refine lv_lstore (lv' := [(5, .long (lN (zsm (zEB (zE (rt + j)) own oth) (i + 1)))), (7, .int (nI i)), (0, .ref ae), (1, .int (nI own)), (2, .int (nI oth)), (3, .int (nI (rt + (j + 1)))), (4, .int (nI rt))]) hx hb dX1_worthToThrow_50 hl (by decide) rfl (fun ls hl => ?_)
          refine lv_iinc (v := nI (i + 1)) (lv' := [(7, .int (nI (i + 1))), (5, .long (lN (zsm (zEB (zE (rt + j)) own oth) (i + 1)))), (0, .ref ae), (1, .int (nI own)), (2, .int (nI oth)), (3, .int (nI (rt + (j + 1)))), (4, .int (nI rt))]) hx hb dX1_worthToThrow_52 hl (k := 1) rfl (nI_1 i) (by decide) rfl (fun ls hl => ?_)
          refine lv_goto (tgt := 20) hx hb dX1_worthToThrow_55 (by decide) ?_
          exact ih20 (i + 1) _ (by omega) rfl (by omega) _ _ hP hS _ (lv_sub hl [0, 1, 2, 3, 4, 5, 6] rfl)
    exact lp 6 0 0 (by omega) rfl (by omega) _ _ hP hS _ (lv_sub hl [0, 1, 2, 3, 4, 5, 6] rfl)
  · skip
    have c_3 : ¬ rt < (rt + (j + 1)) := fun h9 => c_3 ((nI_ltI (a := rt) (b := rt + (j + 1)) (by omega) (by omega)).mpr h9)
    exact absurd (by omega) c_3

theorem c_X1_worthToThrow (l : Launch) (dC : Nat → ClassId) (dI : Nat → Nat → Nat) (cyI cyJ : ClassId) (tb : Nat) (ae at_ : Nat) (rh : Int32) (wf : Nat → Int32) (k : Nat) (hk : k ≤ 60) (htb : zTb k wf) (rt : Nat) (hj : rt ≤ k) : ∀ j, j ≤ 100 → ∀ own oth : Nat, own < 15 → oth < 15 → Met l yX1_worthToThrow wsX1_worthToThrow ({ frames := 2 * j + 1, cells := 0, slots := 0, locals := 54 * j + 24 }) (zPc [.ref ae, .int (nI own), .int (nI oth), .int (nI (rt + j)), .int (nI rt)] (dC, dI) vwCl [(cyI, .int), (cyJ, .long)] [(ae, .inr (0, [.ref at_, .int rh])), (at_, .inl (cyI, 13500, .inl wf))] (fun U => zX tb zF U U.heap)) (va_Qi (fun (r : Int32) (_ : Unit) => r = nI (zE (rt + j) own oth)) (fun _ _ => True) zF) 0 0 zF := by
  intro j
  induction j with
  | zero => intro _ own oth ho ht9; exact c_X1_worthToThrow0 l dC dI cyI cyJ tb ae at_ rh wf k hk htb rt hj own oth ho ht9
  | succ j ih => intro h9 own oth ho ht9; exact c_X1_worthToThrow1 l dC dI cyI cyJ tb ae at_ rh wf k hk htb rt j hj (by omega) (fun own oth mm ho ht9 hmm => c_X1_worthBehindThrow0 l dC dI cyI cyJ tb ae at_ rh wf k hk htb rt j hj (by omega) (ih (by omega)) own oth mm ho ht9 hmm) own oth ho ht9
end
section
/-! filling the table -/
theorem zh {D : va_G} {cl : List vw_C} {w : va_W} {H : Heap} {t : State} (ht : t.heap = H) (h : va_P D cl w H) : va_P D cl w t.heap := by rw [ht]; exact h
/-- row rn + 1 is filled up to c; the rows ahead of it stand -/
def zRw (rn c : Nat) (wf g : Nat → Int32) : Prop := (∀ q, q < rn * 225 → g q = wf q) ∧ ∀ q, q < c → g (rn * 225 + q) = nI (zE (rn + 1) (q / 15) (q % 15))
theorem zRw_0 (rn : Nat) (wf : Nat → Int32) : zRw rn 0 wf wf := ⟨fun _ _ => rfl, fun _ h => absurd h (Nat.not_lt_zero _)⟩
theorem zRw_s {rn c i j : Nat} {wf g : Nat → Int32} (h : zRw rn c wf g) (hc : c = i * 15 + j) (hj : j < 15) : zRw rn (c + 1) wf (upd g (rn * 225 + c) (nI (zE (rn + 1) i j))) := by
  refine ⟨fun q hq => ?_, fun q hq => ?_⟩
  · rw [pk_un (by omega)]; exact h.1 q hq
  · rcases Nat.lt_or_ge q c with h1 | h1
    · rw [pk_un (by omega)]; exact h.2 q h1
    · have e : q = c := by omega
      subst e
      rw [pk_us, show q / 15 = i by omega, show q % 15 = j by omega]
theorem zRw_t {rn c : Nat} {wf g : Nat → Int32} (h : zRw rn c wf g) (ht : zTb rn wf) : zTb rn g := by
  intro r h1 h2 own oth h3 h4
  rw [h.1 _ (by omega)]
  exact ht r h1 h2 own oth h3 h4
theorem zRw_e {rn : Nat} {wf g : Nat → Int32} (h : zRw rn 225 wf g) (ht : zTb rn wf) : zTb (rn + 1) g := by
  intro r h1 h2 own oth h3 h4
  rcases Nat.lt_or_ge rn r with h5 | h5
  · have e : r = rn + 1 := by omega
    subst e
    have := h.2 (own * 15 + oth) (by omega)
    rw [show (own * 15 + oth) / 15 = own by omega, show (own * 15 + oth) % 15 = oth by omega] at this
    rw [show (rn + 1 - 1) * 225 + own * 15 + oth = rn * 225 + (own * 15 + oth) by omega]
    exact this
  · exact zRw_t h ht r h1 (by omega) own oth h3 h4
theorem zmin60 {r : Nat} (h : r ≤ 60) : (if (60 : Int32) < nI r then 60 else nI r) = nI r := if_neg (fun h9 => absurd ((nI_ltI (a := 60) (b := r) (by omega) (by omega)).mp h9) (by omega))
set_option maxHeartbeats 4000000 in
set_option maxRecDepth 100000 in
theorem c_X1_fillRow (l : Launch) (dC : Nat → ClassId) (dI : Nat → Nat → Nat) (cyI cyJ : ClassId) (tb : Nat) (ae at_ : Nat) (rh : Int32) (wf : Nat → Int32) (rn : Nat) (hrn : rn < 60) (htb : zTb rn wf) (hnd : [ae, at_].Nodup) : Met l yX1_fillRow wsX1_fillRow ({ frames := 4, cells := 0, slots := 0, locals := 105 }) (zPc [.ref ae, .int (nI (rn + 1))] (dC, dI) vwCl [(cyI, .int), (cyJ, .long)] [(ae, .inr (0, [.ref at_, .int rh])), (at_, .inl (cyI, 13500, .inl wf))] (fun U => zX tb (zA [ae, at_]) U U.heap)) (va_Qv (fun u => zTb (rn + 1) u) (fun (u : Nat → Int32) t => va_P (dC, dI) vwCl ([(ae, .inr (0, [.ref at_, .int rh])), (at_, .inl (cyI, 13500, .inl u))]) t.heap) (zA [ae, at_])) 0 0 (zA [ae, at_]) := by
  refine Met.ofW (cc := cX1_fillRow) (maxL := 5) (ret := none) (by decide) rfl ?_
  intro p e s m args below meth c s₁ B hml hv
  obtain ⟨rfl, hP, hK, hX⟩ := hv
  have hx := B.exec
  have hb := B.bytes
  have hr := B.returns
  have hts := atoms_spec (ws := wsX1_fillRow) B.pre
  have hown : s.vm.findClass RX1 = some m.cls := findClass_of_methodNamed B.named
  have hlocks := B.notSynchronized
  have hinX1 : ∀ w ∈ wsX10, w ∈ wsX1_fillRow := by decide +kernel
  have hl := lv_entry ([.ref ae, .int (nI (rn + 1))]) (n := 5) (Nat.le_of_ble_eq_true rfl)
  rw [lg_entry_eq]
  generalize (lg_sl ([.ref ae, .int (nI (rn + 1))]) ++ List.replicate (5 - (lg_sl ([.ref ae, .int (nI (rn + 1))])).length) Slot.unset).toArray = ls at hl ⊢
  have hl : lv_has ls 5 [(0, .ref ae), (1, .int (nI (rn + 1)))] := hl
  have hS : va_S (zA [ae, at_]) s.heap s.heap [] := va_S.rf
  have hDD : zD (zA [ae, at_]) [ae, at_] := ⟨hnd, fun _ h => h⟩
  generalize hQe : MQ below _ _ _ _ _ _ = Q
  refine lv_iload_n hx hb dX1_fillRow_0 rfl (lv_at hl 1 rfl) ?_
  refine lv_iconst (v := 1) hx hb dX1_fillRow_1 (by decide) ?_
  refine lv_isub hx hb dX1_fillRow_2 ?_
  refine zz_i (y := nI rn) (nI_pred rn) ?_
  refine lv_sipush (v := 225) hx hb dX1_fillRow_3 (by decide) ?_
  refine lv_imul hx hb dX1_fillRow_6 ?_
  refine zz_i (y := nI (rn * 225)) (pk_mul rn 225) ?_
  refine lv_istore_n (lv' := [(2, .int (nI (rn * 225))), (0, .ref ae), (1, .int (nI (rn + 1)))]) hx hb dX1_fillRow_7 rfl hl (by decide) rfl (fun ls hl => ?_)
  refine lv_iconst (v := 0) hx hb dX1_fillRow_8 (by decide) ?_
  refine lv_istore_n (lv' := [(3, .int 0), (2, .int (nI (rn * 225))), (0, .ref ae), (1, .int (nI (rn + 1)))]) hx hb dX1_fillRow_9 rfl hl (by decide) rfl (fun ls hl => ?_)
  have lpo : ∀ (n9 : Nat) (i : Nat) (q : Nat) (g : Nat → Int32), i ≤ 15 → q = i * 15 → zRw rn q wf g → 15 - i < n9 → ∀ (H : Heap) (locs : List Loc), va_P (dC, dI) vwCl [(ae, .inr (0, [.ref at_, .int rh])), (at_, .inl (cyI, 13500, .inl g))] H → va_S (zA [ae, at_]) s.heap H locs → ∀ ls : Array Slot, lv_has ls 5 [(3, .int (nI i)), (2, .int (nI (rn * 225 + q))), (0, .ref ae), (1, .int (nI (rn + 1)))] → W p l e (headSpec wsX1_fillRow ({ frames := 4, cells := 0, slots := 0, locals := 105 })).room s m ([.ref ae, .int (nI (rn + 1))] : List Value).toArray below meth c H locs 0 0 Q (F0 m 10 ls []) := by
    intro n9
    induction n9 with
    | zero => intro i q g hi2 hq hg hm9; exact absurd hm9 (Nat.not_lt_zero _)
    | succ n9 ih10 =>
      intro i q g hi2 hq hg hm9 H locs hP hS ls hl
      refine lv_iload_n hx hb dX1_fillRow_10 rfl (lv_at hl 0 rfl) ?_
      refine lv_bipush (v := 15) hx hb dX1_fillRow_11 (by decide) ?_
      refine lv_icmp_ge (tgt := 71) hx hb dX1_fillRow_13 (by decide) (fun c_13 => ?_) (fun c_13 => ?_)
      · skip
        have c_13 : 15 ≤ i := (nI_leI (a := 15) (b := i) (by omega) (by omega)).mp c_13
        subst hQe
        exact W.vret hx hb hr (fun t ht hW => ⟨⟨g, rfl, (by rw [show q = 225 by omega] at hg; exact zRw_e hg htb), zh ht hP⟩, hS.F ht⟩) hS.2.2 dX1_fillRow_71
      · skip
        have c_13 : ¬ 15 ≤ i := fun h9 => c_13 ((nI_leI (a := 15) (b := i) (by omega) (by omega)).mpr h9)
        refine lv_iconst (v := 0) hx hb dX1_fillRow_16 (by decide) ?_
        refine lv_istore (lv' := [(4, .int 0), (3, .int (nI i)), (2, .int (nI (rn * 225 + q))), (0, .ref ae), (1, .int (nI (rn + 1)))]) hx hb dX1_fillRow_17 hl (by decide) rfl (fun ls hl => ?_)
        have lpi : ∀ (n9 : Nat) (j : Nat) (q : Nat) (g : Nat → Int32), j ≤ 15 → q = i * 15 + j → zRw rn q wf g → 15 - j < n9 → ∀ (H : Heap) (locs : List Loc), va_P (dC, dI) vwCl [(ae, .inr (0, [.ref at_, .int rh])), (at_, .inl (cyI, 13500, .inl g))] H → va_S (zA [ae, at_]) s.heap H locs → ∀ ls : Array Slot, lv_has ls 5 [(4, .int (nI j)), (3, .int (nI i)), (2, .int (nI (rn * 225 + q))), (0, .ref ae), (1, .int (nI (rn + 1)))] → W p l e (headSpec wsX1_fillRow ({ frames := 4, cells := 0, slots := 0, locals := 105 })).room s m ([.ref ae, .int (nI (rn + 1))] : List Value).toArray below meth c H locs 0 0 Q (F0 m 19 ls []) := by
          intro n9
          induction n9 with
          | zero => intro j q g hj2 hq hg hm9; exact absurd hm9 (Nat.not_lt_zero _)
          | succ n9 ih19 =>
            intro j q g hj2 hq hg hm9 H locs hP hS ls hl
            refine lv_iload hx hb dX1_fillRow_19 (lv_at hl 0 rfl) ?_
            refine lv_bipush (v := 15) hx hb dX1_fillRow_21 (by decide) ?_
            refine lv_icmp_ge (tgt := 65) hx hb dX1_fillRow_23 (by decide) (fun c_23 => ?_) (fun c_23 => ?_)
            · skip
              have c_23 : 15 ≤ j := (nI_leI (a := 15) (b := j) (by omega) (by omega)).mp c_23
              refine lv_iinc (v := nI (i + 1)) (lv' := [(3, .int (nI (i + 1))), (4, .int (nI j)), (2, .int (nI (rn * 225 + q))), (0, .ref ae), (1, .int (nI (rn + 1)))]) hx hb dX1_fillRow_65 hl (k := 1) rfl (nI_1 i) (by decide) rfl (fun ls hl => ?_)
              refine lv_goto (tgt := 10) hx hb dX1_fillRow_68 (by decide) ?_
              exact ih10 (i + 1) _ _ (by omega) (by omega) hg (by omega) _ _ hP hS _ (lv_sub hl [0, 2, 3, 4] rfl)
            · skip
              have c_23 : ¬ 15 ≤ j := fun h9 => c_23 ((nI_leI (a := 15) (b := j) (by omega) (by omega)).mpr h9)
              refine lv_iload_n hx hb dX1_fillRow_26 rfl (lv_at hl 2 rfl) ?_
              refine lv_if_lt (tgt := 56) hx hb dX1_fillRow_27 (by decide) (fun c_27 => ?_) (fun c_27 => ?_)
              · skip
                have c_27 : (rn * 225 + q) < 0 := (nI_ltI (a := rn * 225 + q) (b := 0) (by omega) (by omega)).mp c_27
                exact absurd c_27 (Nat.not_lt_zero _)
              · skip
                have c_27 : ¬ (rn * 225 + q) < 0 := fun h9 => c_27 ((nI_ltI (a := rn * 225 + q) (b := 0) (by omega) (by omega)).mpr h9)
                refine lv_iload_n hx hb dX1_fillRow_30 rfl (lv_at hl 2 rfl) ?_
                refine lv_aload_n hx hb dX1_fillRow_31 rfl (lv_at hl 3 rfl) ?_
                refine va_get (D := (dC, dI)) (ci := 0) (v := .ref at_) (C := RX1) (T := TX1) (N := 2) hx hb hts hinX1 hown hK hP 0 rfl rfl 0 (by decide) (hts (.fieldLink RX1 13 "RoyalUrTable$Endings" "worths" "[I") (List.mem_of_getElem? (i := 1) rfl)) (fun _ h9 => h9) rfl dX1_fillRow_32 ?_
                refine va_alen (v := 13500) hx hb hK hP 1 0 rfl rfl rfl dX1_fillRow_35 ?_
                refine lv_icmp_ge (tgt := 56) hx hb dX1_fillRow_36 (by decide) (fun c_36 => ?_) (fun c_36 => ?_)
                · skip
                  have c_36 : 13500 ≤ (rn * 225 + q) := (nI_leI (a := 13500) (b := rn * 225 + q) (by omega) (by omega)).mp c_36
                  exact absurd c_36 (by omega)
                · skip
                  have c_36 : ¬ 13500 ≤ (rn * 225 + q) := fun h9 => c_36 ((nI_leI (a := 13500) (b := rn * 225 + q) (by omega) (by omega)).mpr h9)
                  refine lv_aload_n hx hb dX1_fillRow_39 rfl (lv_at hl 3 rfl) ?_
                  refine va_get (D := (dC, dI)) (ci := 0) (v := .ref at_) (C := RX1) (T := TX1) (N := 2) hx hb hts hinX1 hown hK hP 0 rfl rfl 0 (by decide) (hts (.fieldLink RX1 13 "RoyalUrTable$Endings" "worths" "[I") (List.mem_of_getElem? (i := 1) rfl)) (fun _ h9 => h9) rfl dX1_fillRow_40 ?_
                  refine lv_iload_n hx hb dX1_fillRow_43 rfl (lv_at hl 2 rfl) ?_
                  refine lv_aload_n hx hb dX1_fillRow_44 rfl (lv_at hl 3 rfl) ?_
                  refine lv_iload_n hx hb dX1_fillRow_45 rfl (lv_at hl 1 rfl) ?_
                  refine lv_iload hx hb dX1_fillRow_46 (lv_at hl 0 rfl) ?_
                  refine lv_iload_n hx hb dX1_fillRow_48 rfl (lv_at hl 4 rfl) ?_
                  refine lv_iload_n hx hb dX1_fillRow_49 rfl (lv_at hl 4 rfl) ?_
                  refine lv_iconst (v := 1) hx hb dX1_fillRow_50 (by decide) ?_
                  refine lv_isub hx hb dX1_fillRow_51 ?_
                  refine zz_i (y := nI rn) (nI_pred rn) ?_
                  refine zro_i (va_runV (As := [.int (nI i), .int (nI j), .int (nI (rn + 1)), .int (nI rn)]) (rest := [.int (nI (rn * 225 + q)), .ref at_]) ⟨hx, hb, hml, hown, hts⟩ (c_X1_worthToThrow l dC dI cyI cyJ tb ae at_ rh g rn (by omega) (zRw_t hg htb) rn (by omega) 1 (by omega) i j (by omega) (by omega)) (cwV 4 hts gX1_fillRow_X1_worthToThrow rfl rfl rfl (by decide +kernel) ⟨Nat.le_of_ble_eq_true rfl, Nat.le_of_ble_eq_true rfl⟩) (zPc_V (ci := 0) (q0 := 0) zB_X hP hK rfl rfl [0, 1] rfl (zX_at hX hS zF_A)) rfl rfl hl.1 rfl (lv_room (Nat.le_of_ble_eq_true rfl)) dX1_fillRow_52 ⟨Nat.zero_le _, Nat.zero_le _⟩) hP hS (fun H locs hP hS => ?_)
                  refine zi_iast hx hb hK hP hDD hS 1 0 rfl rfl (j := rn * 225 + q) rfl (by omega) (by decide) dX1_fillRow_55 (fun H locs hP hS => ?_)
                  have hP : va_P (dC, dI) vwCl [(ae, .inr (0, [.ref at_, .int rh])), (at_, .inl (cyI, 13500, .inl (upd g (rn * 225 + q) (nI (zE (rn + 1) i j)))))] H := hP
                  refine lv_iinc (v := nI (rn * 225 + q + 1)) (lv' := [(2, .int (nI (rn * 225 + q + 1))), (4, .int (nI j)), (3, .int (nI i)), (0, .ref ae), (1, .int (nI (rn + 1)))]) hx hb dX1_fillRow_56 hl (k := 2) rfl (nI_1 (rn * 225 + q)) (by decide) rfl (fun ls hl => ?_)
                  refine lv_iinc (v := nI (j + 1)) (lv' := [(4, .int (nI (j + 1))), (2, .int (nI (rn * 225 + q + 1))), (3, .int (nI i)), (0, .ref ae), (1, .int (nI (rn + 1)))]) hx hb dX1_fillRow_59 hl (k := 1) rfl (nI_1 j) (by decide) rfl (fun ls hl => ?_)
                  refine lv_goto (tgt := 19) hx hb dX1_fillRow_62 (by decide) ?_
                  exact ih19 (j + 1) (q + 1) _ (by omega) (by omega) (zRw_s hg hq (by omega)) (by omega) _ _ hP hS _ (lv_sub hl [0, 2, 1, 3, 4] rfl)
        exact lpi 16 0 q g (by omega) (by omega) hg (by omega) _ _ hP hS _ (lv_sub hl [0, 1, 2, 3, 4] rfl)
  exact lpo 16 0 0 wf (by omega) (by omega) (zRw_0 rn wf) (by omega) _ _ hP hS _ (lv_sub hl [0, 1, 2, 3] rfl)

set_option maxHeartbeats 4000000 in
set_option maxRecDepth 100000 in
theorem c_X1_fillUpTo (l : Launch) (dC : Nat → ClassId) (dI : Nat → Nat → Nat) (cyI cyJ : ClassId) (tb : Nat) (ae at_ : Nat) (wf : Nat → Int32) (k rr : Nat) (hk : k ≤ 60) (hr9 : rr ≤ 60) (htb : zTb k wf) (hnd : [ae, at_].Nodup) : Met l yX1_fillUpTo wsX1_fillUpTo ({ frames := 5, cells := 0, slots := 0, locals := 129 }) (zPc [.ref ae, .int (nI rr)] (dC, dI) vwCl [(cyI, .int), (cyJ, .long)] [(ae, .inr (0, [.ref at_, .int (nI k)])), (at_, .inl (cyI, 13500, .inl wf))] (fun U => zX tb (zA [ae, at_]) U U.heap)) (va_Qv (fun u => zTb u.1 u.2 ∧ rr ≤ u.1 ∧ u.1 ≤ 60) (fun (u : Nat × (Nat → Int32)) t => va_P (dC, dI) vwCl ([(ae, .inr (0, [.ref at_, .int (nI u.1)])), (at_, .inl (cyI, 13500, .inl u.2))]) t.heap) (zA [ae, at_])) 0 0 (zA [ae, at_]) := by
  refine Met.ofW (cc := cX1_fillUpTo) (maxL := 4) (ret := none) (by decide) rfl ?_
  intro p e s m args below meth c s₁ B hml hv
  obtain ⟨rfl, hP, hK, hX⟩ := hv
  have hx := B.exec
  have hb := B.bytes
  have hr := B.returns
  have hts := atoms_spec (ws := wsX1_fillUpTo) B.pre
  have hown : s.vm.findClass RX1 = some m.cls := findClass_of_methodNamed B.named
  have hlocks := B.notSynchronized
  have hinX1 : ∀ w ∈ wsX10, w ∈ wsX1_fillUpTo := by decide +kernel
  have hl := lv_entry ([.ref ae, .int (nI rr)]) (n := 4) (Nat.le_of_ble_eq_true rfl)
  rw [lg_entry_eq]
  generalize (lg_sl ([.ref ae, .int (nI rr)]) ++ List.replicate (4 - (lg_sl ([.ref ae, .int (nI rr)])).length) Slot.unset).toArray = ls at hl ⊢
  have hl : lv_has ls 4 [(0, .ref ae), (1, .int (nI rr))] := hl
  have hS : va_S (zA [ae, at_]) s.heap s.heap [] := va_S.rf
  have hDD : zD (zA [ae, at_]) [ae, at_] := ⟨hnd, fun _ h => h⟩
  generalize hQe : MQ below _ _ _ _ _ _ = Q
  refine lv_iload_n hx hb dX1_fillUpTo_0 rfl (lv_at hl 1 rfl) ?_
  refine lv_bipush (v := 60) hx hb dX1_fillUpTo_1 (by decide) ?_
  refine va_mmin hx hb (hml.trans hl.1.symm) hown (hts (.methodLink RX1 17 Lib.Math.min.name) (List.mem_of_getElem? (i := 1) rfl)) (hts (.static Lib.Math.min.name) (List.mem_of_getElem? (i := 2) rfl)) (hts (.initialized "java/lang/Math") (List.mem_of_getElem? (i := 3) rfl)) (hts (.code Lib.Math.min.name Lib.Math.min.code 2 (some .int)) (List.mem_of_getElem? (i := 4) rfl)) (Nat.le_of_ble_eq_true rfl) (Nat.le_of_ble_eq_true rfl) (Nat.le_of_ble_eq_true rfl) (Nat.le_of_ble_eq_true rfl) dX1_fillUpTo_3 ?_
  refine zz_i (y := nI rr) (zmin60 hr9) ?_
  refine lv_istore_n (lv' := [(2, .int (nI rr)), (0, .ref ae), (1, .int (nI rr))]) hx hb dX1_fillUpTo_6 rfl hl (by decide) rfl (fun ls hl => ?_)
  refine lv_aload_n hx hb dX1_fillUpTo_7 rfl (lv_at hl 1 rfl) ?_
  refine va_get (D := (dC, dI)) (ci := 0) (v := .int (nI k)) (C := RX1) (T := TX1) (N := 2) hx hb hts hinX1 hown hK hP 0 rfl rfl 1 (by decide) (hts (.fieldLink RX1 23 "RoyalUrTable$Endings" "roundsHeld" "I") (List.mem_of_getElem? (i := 5) rfl)) (fun _ h9 => h9) rfl dX1_fillUpTo_8 ?_
  refine lv_iconst (v := 1) hx hb dX1_fillUpTo_11 (by decide) ?_
  refine lv_iadd hx hb dX1_fillUpTo_12 ?_
  refine zz_i (y := nI (k + 1)) (nI_add k 1) ?_
  refine lv_istore_n (lv' := [(3, .int (nI (k + 1))), (2, .int (nI rr)), (0, .ref ae), (1, .int (nI rr))]) hx hb dX1_fillUpTo_13 rfl hl (by decide) rfl (fun ls hl => ?_)
  have lp : ∀ (n9 : Nat) (q : Nat) (g : Nat → Int32), q ≤ 60 → zTb q g → 60 - q < n9 → ∀ (H : Heap) (locs : List Loc), va_P (dC, dI) vwCl [(ae, .inr (0, [.ref at_, .int (nI q)])), (at_, .inl (cyI, 13500, .inl g))] H → va_S (zA [ae, at_]) s.heap H locs → ∀ ls : Array Slot, lv_has ls 4 [(3, .int (nI (q + 1))), (2, .int (nI rr)), (0, .ref ae), (1, .int (nI rr))] → W p l e (headSpec wsX1_fillUpTo ({ frames := 5, cells := 0, slots := 0, locals := 129 })).room s m ([.ref ae, .int (nI rr)] : List Value).toArray below meth c H locs 0 0 Q (F0 m 14 ls []) := by
    intro n9
    induction n9 with
    | zero => intro q g hq6 hq hm9; exact absurd hm9 (Nat.not_lt_zero _)
    | succ n9 ih14 =>
      intro q g hq6 hq hm9 H locs hP hS ls hl
      refine lv_iload_n hx hb dX1_fillUpTo_14 rfl (lv_at hl 0 rfl) ?_
      refine lv_iload_n hx hb dX1_fillUpTo_15 rfl (lv_at hl 1 rfl) ?_
      refine lv_icmp_gt (tgt := 35) hx hb dX1_fillUpTo_16 (by decide) (fun c_16 => ?_) (fun c_16 => ?_)
      · skip
        have c_16 : rr < (q + 1) := (nI_ltI (a := rr) (b := q + 1) (by omega) (by omega)).mp c_16
        subst hQe
        exact W.vret hx hb hr (fun t ht hW => ⟨⟨(q, g), rfl, ⟨hq, (by omega), hq6⟩, zh ht hP⟩, hS.F ht⟩) hS.2.2 dX1_fillUpTo_35
      · skip
        have c_16 : ¬ rr < (q + 1) := fun h9 => c_16 ((nI_ltI (a := rr) (b := q + 1) (by omega) (by omega)).mpr h9)
        refine lv_aload_n hx hb dX1_fillUpTo_19 rfl (lv_at hl 2 rfl) ?_
        refine lv_iload_n hx hb dX1_fillUpTo_20 rfl (lv_at hl 0 rfl) ?_
        refine zrw_v (w1 := fun u => [(ae, .inr (0, [.ref at_, .int (nI q)])), (at_, .inl (cyI, 13500, .inl u))]) (al := [ae, at_]) (va_runV (As := [.int (nI (q + 1))]) (rest := []) ⟨hx, hb, hml, hown, hts⟩ (c_X1_fillRow l dC dI cyI cyJ tb ae at_ (nI q) g q (by omega) hq hDD.1) (cwV 1 hts gX1_fillUpTo_X1_fillRow rfl rfl rfl (by decide +kernel) ⟨Nat.le_of_ble_eq_true rfl, Nat.le_of_ble_eq_true rfl⟩) (zPc_V (ci := 0) (q0 := 0) zB_X hP hK rfl rfl [0, 1] rfl (zX_at hX hS (fun _ h => h))) rfl rfl hl.1 rfl (lv_room (Nat.le_of_ble_eq_true rfl)) dX1_fillUpTo_21 ⟨Nat.zero_le _, Nat.zero_le _⟩) hP hDD hS [0, 1] rfl (fun _ => rfl) (fun u_21 H locs hw_21 hP hS => ?_)
        have hP : va_P (dC, dI) vwCl [(ae, .inr (0, [.ref at_, .int (nI q)])), (at_, .inl (cyI, 13500, .inl u_21))] H := hP
        refine lv_aload_n hx hb dX1_fillUpTo_24 rfl (lv_at hl 2 rfl) ?_
        refine lv_iload_n hx hb dX1_fillUpTo_25 rfl (lv_at hl 0 rfl) ?_
        refine va_put (D := (dC, dI)) (ci := 0) (v := .int (nI (q + 1))) (ty := .int) (C := RX1) (T := TX1) (N := 2) hx hb hts hinX1 tyX1 tyX1_ok nmX1 hown hK hP (hDD.va rfl) hS 0 rfl rfl 1 (by decide) (hts (.fieldLink RX1 23 "RoyalUrTable$Endings" "roundsHeld" "I") (List.mem_of_getElem? (i := 5) rfl)) (fun _ h9 => h9) rfl (by decide +kernel) rfl rfl (Nat.le_of_ble_eq_true rfl) dX1_fillUpTo_26 (fun H locs hP hD9 hS => ?_)
        have hP : va_P (dC, dI) vwCl [(ae, .inr (0, [.ref at_, .int (nI (q + 1))])), (at_, .inl (cyI, 13500, .inl u_21))] H := hP
        refine lv_iinc (v := nI (q + 1 + 1)) (lv' := [(3, .int (nI (q + 1 + 1))), (2, .int (nI rr)), (0, .ref ae), (1, .int (nI rr))]) hx hb dX1_fillUpTo_29 hl (k := 0) rfl (nI_1 (q + 1)) (by decide) rfl (fun ls hl => ?_)
        refine lv_goto (tgt := 14) hx hb dX1_fillUpTo_32 (by decide) ?_
        exact ih14 (q + 1) _ (by omega) hw_21 (by omega) _ _ hP hS _ (lv_sub hl [0, 1, 2, 3] rfl)
  exact lp 61 k wf (by omega) htb (by omega) _ _ hP hS _ (lv_sub hl [0, 1, 2, 3] rfl)

set_option maxHeartbeats 4000000 in
set_option maxRecDepth 100000 in
theorem c_X1_playedOut (l : Launch) (dC : Nat → ClassId) (dI : Nat → Nat → Nat) (cyI cyJ : ClassId) (tb : Nat) (ae at_ : Nat) (rh : Int32) (wf : Nat → Int32) (own oth rr : Nat) (ho : own < 15) (ht9 : oth < 15) (hr9 : rr ≤ 5) : Met l yX1_playedOut wsX1_playedOut ({ frames := 12, cells := 0, slots := 0, locals := 400 }) (zPc [.ref ae, .int (nI own), .int (nI oth), .int (nI rr)] (dC, dI) vwCl [(cyI, .int), (cyJ, .long)] [(ae, .inr (0, [.ref at_, .int rh])), (at_, .inl (cyI, 13500, .inl wf))] (fun U => zX tb zF U U.heap)) (va_Qi (fun (r : Int32) (_ : Unit) => r = nI (zE rr own oth)) (fun _ _ => True) zF) 0 0 zF := by
  refine Met.ofW (cc := cX1_playedOut) (maxL := 4) (ret := (some .int)) (by decide) rfl ?_
  intro p e s m args below meth c s₁ B hml hv
  obtain ⟨rfl, hP, hK, hX⟩ := hv
  have hx := B.exec
  have hb := B.bytes
  have hr := B.returns
  have hts := atoms_spec (ws := wsX1_playedOut) B.pre
  have hown : s.vm.findClass RX1 = some m.cls := findClass_of_methodNamed B.named
  have hlocks := B.notSynchronized
  have hl := lv_entry ([.ref ae, .int (nI own), .int (nI oth), .int (nI rr)]) (n := 4) (Nat.le_of_ble_eq_true rfl)
  rw [lg_entry_eq]
  generalize (lg_sl ([.ref ae, .int (nI own), .int (nI oth), .int (nI rr)]) ++ List.replicate (4 - (lg_sl ([.ref ae, .int (nI own), .int (nI oth), .int (nI rr)])).length) Slot.unset).toArray = ls at hl ⊢
  have hl : lv_has ls 4 [(0, .ref ae), (1, .int (nI own)), (2, .int (nI oth)), (3, .int (nI rr))] := hl
  have hS : va_S zF s.heap s.heap [] := va_S.rf
  refine lv_aload_n hx hb dX1_playedOut_0 rfl (lv_at hl 0 rfl) ?_
  refine lv_iload_n hx hb dX1_playedOut_1 rfl (lv_at hl 1 rfl) ?_
  refine lv_iload_n hx hb dX1_playedOut_2 rfl (lv_at hl 2 rfl) ?_
  refine lv_iload_n hx hb dX1_playedOut_3 rfl (lv_at hl 3 rfl) ?_
  refine zz_i (y := nI (0 + rr)) (by rw [Nat.zero_add]) ?_
  refine lv_iconst (v := 0) hx hb dX1_playedOut_4 (by decide) ?_
  refine zro_i (va_runV (As := [.int (nI own), .int (nI oth), .int (nI (0 + rr)), .int 0]) (rest := []) ⟨hx, hb, hml, hown, hts⟩ (c_X1_worthToThrow l dC dI cyI cyJ tb ae at_ rh wf 0 (by omega) (fun r h1 h2 => by omega) 0 (by omega) rr (by omega) own oth (by omega) (by omega)) (cwV 4 hts gX1_playedOut_X1_worthToThrow rfl rfl rfl (by decide +kernel) ⟨(show (2 * rr + 1) + 1 ≤ 12 by omega), (show 8 + (8 + 11) + (54 * rr + 24) ≤ 400 by omega)⟩) (zPc_V (ci := 0) (q0 := 0) zB_X hP hK rfl rfl [0, 1] rfl (zX_at hX hS zF_A)) rfl rfl hl.1 rfl (lv_room (Nat.le_of_ble_eq_true rfl)) dX1_playedOut_5 ⟨Nat.zero_le _, Nat.zero_le _⟩) hP hS (fun H locs hP hS => ?_)
  exact W.iret (v := nI (zE (0 + rr) own oth)) hx hb hr (fun t ht hW => ⟨⟨_, (), rfl, (by rw [Nat.zero_add]), trivial⟩, hS.F ht⟩) hS.2.2 dX1_playedOut_8
end
section
/-! the class looks ahead: the lead, the places, the worths -/
def zLd (a b : Nat) : Int32 := nI (psum a 16) - nI (psum b 16)
theorem zi_ring1 (x y z : Int32) : x - y + z = (x + z) - y := by grind
theorem zi_ring2 (x y : Int32) : -(x - y) = y - x := by grind
theorem zi_ring3 (c h x y : Int32) : h + c * (x - y) = (h + c * x) - c * y := by grind
theorem zi_ring4 (x y z : Int32) : x - (y + z) + z = x - y := by grind
theorem zLd_neg (a b : Nat) : -(zLd a b) = zLd b a := zi_ring2 _ _
theorem zLd_own {a a' b m : Nat} (h : psum a' 16 = psum a 16 + m) : zLd a b + nI m = zLd a' b := by
  unfold zLd
  rw [h, zi_ring1, nI_add]
theorem zLd_oth {a b b' m : Nat} (h : psum b 16 = psum b' 16 + m) : zLd a b + nI m = zLd a b' := by
  unfold zLd
  rw [h, ← nI_add, zi_ring4]
theorem zlead {a b : Nat} (ha : psum a 16 ≤ 60) (hb : psum b 16 ≤ 60) : 500000000 + 4000000 * zLd a b = nI (500000000 + 4000000 * psum a 16 - 4000000 * psum b 16) := by
  rw [← pk_sub (by omega), ← nI_add, ← pk_mul, ← pk_mul]
  exact zi_ring3 _ _ _ _
theorem zfs_ex (n : Nat) : ∀ j p, (∃ q, p ≤ q ∧ q < p + j ∧ dg n q ≠ 0) → zfs n p j < p + j := by
  intro j
  induction j with
  | zero => intro p h; obtain ⟨q, h1, h2, -⟩ := h; omega
  | succ j ih =>
    intro p h
    rw [zfs_s]
    split
    · rename_i h0
      obtain ⟨q, h1, h2, h3⟩ := h
      have := ih (p + 1) ⟨q, by rcases Nat.lt_or_ge p q with h4 | h4; exact h4; exact absurd (by rw [show q = p by omega]; exact h0) h3, by omega, h3⟩
      omega
    · omega
theorem dsum_ex (n : Nat) : ∀ j, dsum n j ≠ 0 → ∃ q, q < j ∧ dg n q ≠ 0 := by
  intro j
  induction j with
  | zero => intro h; exact absurd rfl h
  | succ j ih =>
    intro h
    by_cases h1 : dsum n j = 0
    · refine ⟨j, by omega, fun h2 => h ?_⟩
      show dsum n j + dg n j = 0
      omega
    · obtain ⟨q, h2, h3⟩ := ih h1
      exact ⟨q, by omega, h3⟩
theorem zfs_lt {k n : Nat} (h : zok k n) (h1 : 1 ≤ k) (h2 : dg n 15 = k - 1) : zfs n 0 15 < 15 := by
  have h3 : dsum n 15 + dg n 15 = k := h.2.2
  obtain ⟨q, h4, h5⟩ := dsum_ex n 15 (by omega)
  have := zfs_ex n 15 0 ⟨q, Nat.zero_le _, by omega, h5⟩
  omega
theorem zmaxI {n : Nat} (h : 1 ≤ n) (h2 : n < 2 ^ 31) : (if nI n < 1 then 1 else nI n) = nI n := if_neg (fun h9 => absurd ((nI_ltI (a := n) (b := 1) (by omega) (by omega)).mp h9) (by omega))
theorem zminI {n : Nat} (h : n ≤ 999999999) : (if (999999999 : Int32) < nI n then 999999999 else nI n) = nI n := if_neg (fun h9 => absurd ((nI_ltI (a := 999999999) (b := n) (by omega) (by omega)).mp h9) (by omega))
theorem zHas_s (own oth m j : Nat) : zHas own oth m (j + 1) = (zHas own oth m j || zcm own oth j m) := rfl
theorem zBst_s (g : Nat → Nat) (own oth m j : Nat) : zBst g own oth m (j + 1) = if zcm own oth j m = true then max (zBst g own oth m j) (g j) else zBst g own oth m j := rfl
/-- the best so far, or none -/
def zBI (g : Nat → Nat) (own oth m j : Nat) (b : Int32) : Prop := (zHas own oth m j = false ∧ zBst g own oth m j = 0 ∧ b = -1) ∨ (zHas own oth m j = true ∧ b = nI (zBst g own oth m j))
theorem zBI_n {g : Nat → Nat} {own oth m j : Nat} {b : Int32} (h : zBI g own oth m j b) (c : zcm own oth j m = false) : zBI g own oth m (j + 1) b := by
  unfold zBI
  rw [zHas_s, zBst_s, c, if_neg (by decide), Bool.or_false]
  exact h
theorem zBI_y {g : Nat → Nat} {own oth m j : Nat} {b : Int32} (h : zBI g own oth m j b) (hg : ∀ a, g a ≤ 1000000000) (c : zcm own oth j m = true) : zBI g own oth m (j + 1) (if b < nI (g j) then nI (g j) else b) := by
  refine Or.inr ⟨by rw [zHas_s, c, Bool.or_true], ?_⟩
  rw [zBst_s, if_pos c]
  have h1 := hg j
  rcases h with ⟨-, h2, h3⟩ | ⟨-, h3⟩
  · rw [h2, h3, if_pos (by rw [Int32.lt_iff_toInt_lt, nI_toInt (by omega)]; show (-1 : Int) < _; omega), Nat.zero_max]
  · have h4 := zBst_le hg own oth m j
    rw [h3]
    by_cases h5 : zBst g own oth m j < g j
    · rw [if_pos ((nI_ltI (by omega) (by omega)).mpr h5), Nat.max_eq_right (by omega)]
    · rw [if_neg (fun h9 => h5 ((nI_ltI (by omega) (by omega)).mp h9)), Nat.max_eq_left (by omega)]
theorem zBI_0 (g : Nat → Nat) (own oth m : Nat) : zBI g own oth m 0 (-1) := Or.inl ⟨rfl, rfl, rfl⟩
theorem zBI_t {g : Nat → Nat} {own oth m j : Nat} {b : Int32} (h : zBI g own oth m j b) (c : ¬ b = -1) : zHas own oth m j = true ∧ b = nI (zBst g own oth m j) := by
  rcases h with ⟨-, -, h3⟩ | h
  · exact absurd h3 c
  · exact h
theorem zBI_f {g : Nat → Nat} {own oth m j : Nat} {b : Int32} (h : zBI g own oth m j b) (hg : ∀ a, g a ≤ 1000000000) (c : b = -1) : zHas own oth m j = false := by
  rcases h with ⟨h1, -, -⟩ | ⟨-, h2⟩
  · exact h1
  · exfalso
    have h4 := zBst_le hg own oth m j
    have h5 : (nI (zBst g own oth m j)).toInt = -1 := by rw [← h2, c]; rfl
    rw [nI_toInt (by omega)] at h5
    omega
set_option maxHeartbeats 4000000 in
set_option maxRecDepth 100000 in
theorem c_X5_worthAtOnce (l : Launch) (dC : Nat → ClassId) (dI : Nat → Nat → Nat) (cyI cyJ : ClassId) (tb ax a0 a1 ae aw at_ : Nat) (tI mk wn cnt rh : Int32) (wf : Nat → Int32) (k kk : Nat) (hk1 : 1 ≤ k) (hkk : kk ≤ 60) (h40 : 40 ≤ kk) (htb : zTb kk wf) (own oth : Nat) (hO : zok k own) (hQ : zok k oth) : Met l yX5_worthAtOnce wsX5_worthAtOnce ({ frames := 2, cells := 0, slots := 0, locals := 44 }) (zPc [.ref ax, .long (lN own), .long (lN oth), .int (zLd own oth)] (dC, dI) vwCl [(cyI, .int), (cyJ, .long)] [(ax, .inr (2, [.ref a0, .ref a1, .ref ae, .ref aw, .int (nI k), .int tI, .int mk, .int wn, .int cnt])), (ae, .inr (0, [.ref at_, .int rh])), (at_, .inl (cyI, 13500, .inl wf))] (fun _ => True)) (va_Qi (fun (r : Int32) (_ : Unit) => r = nI (zLf k own oth)) (fun _ _ => True) zF) 0 0 zF := by
  refine Met.ofW (cc := cX5_worthAtOnce) (maxL := 7) (ret := (some .int)) (by decide) rfl ?_
  intro p e s m args below meth c s₁ B hml hv
  obtain ⟨rfl, hP, hK, hX⟩ := hv
  have hx := B.exec
  have hb := B.bytes
  have hr := B.returns
  have hts := atoms_spec (ws := wsX5_worthAtOnce) B.pre
  have hown : s.vm.findClass RX5 = some m.cls := findClass_of_methodNamed B.named
  have hlocks := B.notSynchronized
  have hinX5 : ∀ w ∈ wsX50, w ∈ wsX5_worthAtOnce := by decide +kernel
  have hl := lv_entry ([.ref ax, .long (lN own), .long (lN oth), .int (zLd own oth)]) (n := 7) (Nat.le_of_ble_eq_true rfl)
  rw [lg_entry_eq]
  generalize (lg_sl ([.ref ax, .long (lN own), .long (lN oth), .int (zLd own oth)]) ++ List.replicate (7 - (lg_sl ([.ref ax, .long (lN own), .long (lN oth), .int (zLd own oth)])).length) Slot.unset).toArray = ls at hl ⊢
  have hl : lv_has ls 7 [(0, .ref ax), (1, .long (lN own)), (3, .long (lN oth)), (5, .int (zLd own oth))] := hl
  have hS : va_S zF s.heap s.heap [] := va_S.rf
  have hk4 := hO.1
  have hl1 := hO.lt
  have hl2 := hQ.lt
  have hp1 := hO.ps
  have hp2 := hQ.ps
  refine lv_aload_n hx hb dX5_worthAtOnce_0 rfl (lv_at hl 0 rfl) ?_
  refine va_get (D := (dC, dI)) (ci := 2) (v := .int (nI k)) (C := RX5) (T := TX5) (N := 9) hx hb hts hinX5 hown hK hP 0 rfl rfl 4 (by decide) (hts (.fieldLink RX5 135 "RoyalUrTable" "piecesOfEach" "I") (List.mem_of_getElem? (i := 1) rfl)) (fun _ h9 => h9) rfl dX5_worthAtOnce_1 ?_
  refine lv_iconst (v := 1) hx hb dX5_worthAtOnce_4 (by decide) ?_
  refine lv_isub hx hb dX5_worthAtOnce_5 ?_
  refine zz_i (y := nI (k - 1)) (pk_sub (a := k) (b := 1) (by omega)) ?_
  refine lv_istore (lv' := [(6, .int (nI (k - 1))), (0, .ref ax), (1, .long (lN own)), (3, .long (lN oth)), (5, .int (zLd own oth))]) hx hb dX5_worthAtOnce_6 hl (by decide) rfl (fun ls hl => ?_)
  refine lv_lload_n hx hb dX5_worthAtOnce_8 rfl (lv_at hl 2 rfl) ?_
  refine lv_bipush (v := 15) hx hb dX5_worthAtOnce_9 (by decide) ?_
  refine zro_i (va_runS (As := [.long (lN own), .int 15]) (rest := []) ⟨hx, hb, hml, hown, hts⟩ (c_X2_countAt l own (by omega) 15 (by omega)) (va_cwS 2 hts gX5_worthAtOnce_X2_countAt rfl rfl rfl (by decide +kernel) ⟨Nat.le_of_ble_eq_true rfl, Nat.le_of_ble_eq_true rfl⟩) zPu rfl rfl hl.1 rfl (lv_room (Nat.le_of_ble_eq_true rfl)) dX5_worthAtOnce_11 ⟨Nat.zero_le _, Nat.zero_le _⟩) hP hS (fun H locs hP hS => ?_)
  have hd_11 := dg_lt own 15
  refine lv_iload hx hb dX5_worthAtOnce_14 (lv_at hl 0 rfl) ?_
  refine lv_icmp_ne (tgt := 48) hx hb dX5_worthAtOnce_16 (by decide) (fun c_16 => ?_) (fun c_16 => ?_)
  · skip
    have c_16 : ¬ (dg own 15) = (k - 1) := fun h9 => c_16 ((nI_eq (a := dg own 15) (b := k - 1) (by omega) (by omega)).mpr h9)
    refine lv_ldc (v := 500000000) hx hb hown (hts (.constant RX5 179 (500000000)) (List.mem_of_getElem? (i := 3) rfl)) dX5_worthAtOnce_48 ?_
    refine lv_ldc (v := 4000000) hx hb hown (hts (.constant RX5 180 (4000000)) (List.mem_of_getElem? (i := 4) rfl)) dX5_worthAtOnce_50 ?_
    refine lv_iload hx hb dX5_worthAtOnce_52 (lv_at hl 4 rfl) ?_
    refine lv_imul hx hb dX5_worthAtOnce_54 ?_
    refine lv_iadd hx hb dX5_worthAtOnce_55 ?_
    refine zz_i (y := nI (500000000 + 4000000 * psum own 16 - 4000000 * psum oth 16)) (zlead hp1 hp2) ?_
    refine lv_iconst (v := 1) hx hb dX5_worthAtOnce_56 (by decide) ?_
    refine va_mmax hx hb (hml.trans hl.1.symm) hown (hts (.methodLink RX5 171 Lib.Math.max.name) (List.mem_of_getElem? (i := 5) rfl)) (hts (.static Lib.Math.max.name) (List.mem_of_getElem? (i := 6) rfl)) (hts (.initialized "java/lang/Math") (List.mem_of_getElem? (i := 7) rfl)) (hts (.code Lib.Math.max.name Lib.Math.max.code 2 (some .int)) (List.mem_of_getElem? (i := 8) rfl)) (Nat.le_of_ble_eq_true rfl) (Nat.le_of_ble_eq_true rfl) (Nat.zero_le _) (Nat.zero_le _) dX5_worthAtOnce_57 ?_
    refine zz_i (y := nI (500000000 + 4000000 * psum own 16 - 4000000 * psum oth 16)) (zmaxI (by omega) (by omega)) ?_
    refine lv_ldc (v := 999999999) hx hb hown (hts (.constant RX5 181 (999999999)) (List.mem_of_getElem? (i := 9) rfl)) dX5_worthAtOnce_60 ?_
    refine va_mmin hx hb (hml.trans hl.1.symm) hown (hts (.methodLink RX5 182 Lib.Math.min.name) (List.mem_of_getElem? (i := 10) rfl)) (hts (.static Lib.Math.min.name) (List.mem_of_getElem? (i := 11) rfl)) (hts (.initialized "java/lang/Math") (List.mem_of_getElem? (i := 7) rfl)) (hts (.code Lib.Math.min.name Lib.Math.min.code 2 (some .int)) (List.mem_of_getElem? (i := 12) rfl)) (Nat.le_of_ble_eq_true rfl) (Nat.le_of_ble_eq_true rfl) (Nat.zero_le _) (Nat.zero_le _) dX5_worthAtOnce_62 ?_
    refine zz_i (y := nI (500000000 + 4000000 * psum own 16 - 4000000 * psum oth 16)) (zminI (by omega)) ?_
    exact W.iret (v := nI (500000000 + 4000000 * psum own 16 - 4000000 * psum oth 16)) hx hb hr (fun t ht hW => ⟨⟨_, (), rfl, (by rw [zLf, if_neg (fun h => c_16 h.1)]; exact congrArg nI (by omega)), trivial⟩, hS.F ht⟩) hS.2.2 dX5_worthAtOnce_65
  · skip
    have c_16 : (dg own 15) = (k - 1) := (nI_eq (a := dg own 15) (b := k - 1) (by omega) (by omega)).mp c_16
    refine lv_lload_n hx hb dX5_worthAtOnce_19 rfl (lv_at hl 3 rfl) ?_
    refine lv_bipush (v := 15) hx hb dX5_worthAtOnce_20 (by decide) ?_
    refine zro_i (va_runS (As := [.long (lN oth), .int 15]) (rest := []) ⟨hx, hb, hml, hown, hts⟩ (c_X2_countAt l oth (by omega) 15 (by omega)) (va_cwS 2 hts gX5_worthAtOnce_X2_countAt rfl rfl rfl (by decide +kernel) ⟨Nat.le_of_ble_eq_true rfl, Nat.le_of_ble_eq_true rfl⟩) zPu rfl rfl hl.1 rfl (lv_room (Nat.le_of_ble_eq_true rfl)) dX5_worthAtOnce_22 ⟨Nat.zero_le _, Nat.zero_le _⟩) hP hS (fun H locs hP hS => ?_)
    have hd_22 := dg_lt oth 15
    refine lv_iload hx hb dX5_worthAtOnce_25 (lv_at hl 0 rfl) ?_
    refine lv_icmp_ne (tgt := 48) hx hb dX5_worthAtOnce_27 (by decide) (fun c_27 => ?_) (fun c_27 => ?_)
    · skip
      have c_27 : ¬ (dg oth 15) = (k - 1) := fun h9 => c_27 ((nI_eq (a := dg oth 15) (b := k - 1) (by omega) (by omega)).mpr h9)
      refine lv_ldc (v := 500000000) hx hb hown (hts (.constant RX5 179 (500000000)) (List.mem_of_getElem? (i := 3) rfl)) dX5_worthAtOnce_48 ?_
      refine lv_ldc (v := 4000000) hx hb hown (hts (.constant RX5 180 (4000000)) (List.mem_of_getElem? (i := 4) rfl)) dX5_worthAtOnce_50 ?_
      refine lv_iload hx hb dX5_worthAtOnce_52 (lv_at hl 4 rfl) ?_
      refine lv_imul hx hb dX5_worthAtOnce_54 ?_
      refine lv_iadd hx hb dX5_worthAtOnce_55 ?_
      refine zz_i (y := nI (500000000 + 4000000 * psum own 16 - 4000000 * psum oth 16)) (zlead hp1 hp2) ?_
      refine lv_iconst (v := 1) hx hb dX5_worthAtOnce_56 (by decide) ?_
      refine va_mmax hx hb (hml.trans hl.1.symm) hown (hts (.methodLink RX5 171 Lib.Math.max.name) (List.mem_of_getElem? (i := 5) rfl)) (hts (.static Lib.Math.max.name) (List.mem_of_getElem? (i := 6) rfl)) (hts (.initialized "java/lang/Math") (List.mem_of_getElem? (i := 7) rfl)) (hts (.code Lib.Math.max.name Lib.Math.max.code 2 (some .int)) (List.mem_of_getElem? (i := 8) rfl)) (Nat.le_of_ble_eq_true rfl) (Nat.le_of_ble_eq_true rfl) (Nat.zero_le _) (Nat.zero_le _) dX5_worthAtOnce_57 ?_
      refine zz_i (y := nI (500000000 + 4000000 * psum own 16 - 4000000 * psum oth 16)) (zmaxI (by omega) (by omega)) ?_
      refine lv_ldc (v := 999999999) hx hb hown (hts (.constant RX5 181 (999999999)) (List.mem_of_getElem? (i := 9) rfl)) dX5_worthAtOnce_60 ?_
      refine va_mmin hx hb (hml.trans hl.1.symm) hown (hts (.methodLink RX5 182 Lib.Math.min.name) (List.mem_of_getElem? (i := 10) rfl)) (hts (.static Lib.Math.min.name) (List.mem_of_getElem? (i := 11) rfl)) (hts (.initialized "java/lang/Math") (List.mem_of_getElem? (i := 7) rfl)) (hts (.code Lib.Math.min.name Lib.Math.min.code 2 (some .int)) (List.mem_of_getElem? (i := 12) rfl)) (Nat.le_of_ble_eq_true rfl) (Nat.le_of_ble_eq_true rfl) (Nat.zero_le _) (Nat.zero_le _) dX5_worthAtOnce_62 ?_
      refine zz_i (y := nI (500000000 + 4000000 * psum own 16 - 4000000 * psum oth 16)) (zminI (by omega)) ?_
      exact W.iret (v := nI (500000000 + 4000000 * psum own 16 - 4000000 * psum oth 16)) hx hb hr (fun t ht hW => ⟨⟨_, (), rfl, (by rw [zLf, if_neg (fun h => c_27 h.2)]; exact congrArg nI (by omega)), trivial⟩, hS.F ht⟩) hS.2.2 dX5_worthAtOnce_65
    · skip
      have c_27 : (dg oth 15) = (k - 1) := (nI_eq (a := dg oth 15) (b := k - 1) (by omega) (by omega)).mp c_27
      have hz1 := zfs_lt hO hk1 c_16
      have hz2 := zfs_lt hQ hk1 c_27
      refine lv_aload_n hx hb dX5_worthAtOnce_30 rfl (lv_at hl 1 rfl) ?_
      refine va_get (D := (dC, dI)) (ci := 2) (v := .ref ae) (C := RX5) (T := TX5) (N := 9) hx hb hts hinX5 hown hK hP 0 rfl rfl 2 (by decide) (hts (.fieldLink RX5 22 "RoyalUrTable" "endings" "LRoyalUrTable$Endings;") (List.mem_of_getElem? (i := 2) rfl)) (fun _ h9 => h9) rfl dX5_worthAtOnce_31 ?_
      refine lv_lload_n hx hb dX5_worthAtOnce_34 rfl (lv_at hl 2 rfl) ?_
      refine zro_i (va_runS (As := [.long (lN own)]) (rest := [.ref ae]) ⟨hx, hb, hml, hown, hts⟩ (c_X2_firstPlace l own (by omega)) (va_cwS 1 hts gX5_worthAtOnce_X2_firstPlace rfl rfl rfl (by decide +kernel) ⟨Nat.le_of_ble_eq_true rfl, Nat.le_of_ble_eq_true rfl⟩) zPu rfl rfl hl.1 rfl (lv_room (Nat.le_of_ble_eq_true rfl)) dX5_worthAtOnce_35 ⟨Nat.zero_le _, Nat.zero_le _⟩) hP hS (fun H locs hP hS => ?_)
      refine lv_lload_n hx hb dX5_worthAtOnce_38 rfl (lv_at hl 3 rfl) ?_
      refine zro_i (va_runS (As := [.long (lN oth)]) (rest := [.int (nI (zfs own 0 15)), .ref ae]) ⟨hx, hb, hml, hown, hts⟩ (c_X2_firstPlace l oth (by omega)) (va_cwS 1 hts gX5_worthAtOnce_X2_firstPlace rfl rfl rfl (by decide +kernel) ⟨Nat.le_of_ble_eq_true rfl, Nat.le_of_ble_eq_true rfl⟩) zPu rfl rfl hl.1 rfl (lv_room (Nat.le_of_ble_eq_true rfl)) dX5_worthAtOnce_39 ⟨Nat.zero_le _, Nat.zero_le _⟩) hP hS (fun H locs hP hS => ?_)
      refine lv_bipush (v := 40) hx hb dX5_worthAtOnce_42 (by decide) ?_
      refine zro_i (va_runV (As := [.int (nI (zfs own 0 15)), .int (nI (zfs oth 0 15)), .int 40]) (rest := []) ⟨hx, hb, hml, hown, hts⟩ (c_X1_held l dC dI cyI cyJ ae at_ rh wf kk hkk htb (zfs own 0 15) (zfs oth 0 15) 40 (by omega) (by omega) (by omega)) (cwV 3 hts gX5_worthAtOnce_X1_held rfl rfl rfl (by decide +kernel) ⟨Nat.le_of_ble_eq_true rfl, Nat.le_of_ble_eq_true rfl⟩) (zPc_V (ci := 0) (q0 := 1) zB_T hP hK rfl rfl [1, 2] rfl (fun _ _ _ => trivial)) rfl rfl hl.1 rfl (lv_room (Nat.le_of_ble_eq_true rfl)) dX5_worthAtOnce_44 ⟨Nat.zero_le _, Nat.zero_le _⟩) hP hS (fun H locs hP hS => ?_)
      exact W.iret (v := nI (zE 40 (zfs own 0 15) (zfs oth 0 15))) hx hb hr (fun t ht hW => ⟨⟨_, (), rfl, (by rw [zLf, if_pos ⟨c_16, c_27⟩]), trivial⟩, hS.F ht⟩) hS.2.2 dX5_worthAtOnce_47

set_option maxHeartbeats 4000000 in
set_option maxRecDepth 100000 in
theorem c_X5_worthBehindMove0 (l : Launch) (dC : Nat → ClassId) (dI : Nat → Nat → Nat) (cyI cyJ : ClassId) (tb ax a0 a1 ae aw at_ : Nat) (tI mk wn cnt rh : Int32) (wf : Nat → Int32) (k kk : Nat) (hk1 : 1 ≤ k) (hkk : kk ≤ 60) (h40 : 40 ≤ kk) (htb : zTb kk wf) (d : Nat) (hT : ∀ own oth : Nat, zok k own → zok k oth → Met l yX5_worthToThrow wsX5_worthToThrow ({ frames := 3 * d + 6, cells := 0, slots := 0, locals := 92 * d + 200 }) (zPc [.ref ax, .long (lN own), .long (lN oth), .int (zLd own oth), .int (nI d)] (dC, dI) vwCl [(cyI, .int), (cyJ, .long)] [(ax, .inr (2, [.ref a0, .ref a1, .ref ae, .ref aw, .int (nI k), .int tI, .int mk, .int wn, .int cnt])), (ae, .inr (0, [.ref at_, .int rh])), (at_, .inl (cyI, 13500, .inl wf))] (fun U => zX tb zF U U.heap)) (va_Qi (fun (r : Int32) (_ : Unit) => r = nI (zV k d own oth)) (fun _ _ => True) zF) 0 0 zF) (own oth fr mm : Nat) (hO : zok k own) (hQ : zok k oth) (hfr : fr ≤ 14) (hmm : mm ≤ 4) (hcm : zcm own oth fr mm = true) : Met l yX5_worthBehindMove wsX5_worthBehindMove ({ frames := 3 * d + 7, cells := 0, slots := 0, locals := 92 * d + 229 }) (zPc [.ref ax, .long (lN own), .long (lN oth), .int (zLd own oth), .int (nI fr), .int (nI mm), .int (nI d)] (dC, dI) vwCl [(cyI, .int), (cyJ, .long)] [(ax, .inr (2, [.ref a0, .ref a1, .ref ae, .ref aw, .int (nI k), .int tI, .int mk, .int wn, .int cnt])), (ae, .inr (0, [.ref at_, .int rh])), (at_, .inl (cyI, 13500, .inl wf))] (fun U => zX tb zF U U.heap)) (va_Qi (fun (r : Int32) (_ : Unit) => r = nI (zBM (zV k d) own oth fr mm)) (fun _ _ => True) zF) 0 0 zF := by
  refine Met.ofW (cc := cX5_worthBehindMove) (maxL := 15) (ret := (some .int)) (by decide) rfl ?_
  intro p e s m args below meth c s₁ B hml hv
  obtain ⟨rfl, hP, hK, hX⟩ := hv
  have hx := B.exec
  have hb := B.bytes
  have hr := B.returns
  have hts := atoms_spec (ws := wsX5_worthBehindMove) B.pre
  have hown : s.vm.findClass RX5 = some m.cls := findClass_of_methodNamed B.named
  have hlocks := B.notSynchronized
  have hl := lv_entry ([.ref ax, .long (lN own), .long (lN oth), .int (zLd own oth), .int (nI fr), .int (nI mm), .int (nI d)]) (n := 15) (Nat.le_of_ble_eq_true rfl)
  rw [lg_entry_eq]
  generalize (lg_sl ([.ref ax, .long (lN own), .long (lN oth), .int (zLd own oth), .int (nI fr), .int (nI mm), .int (nI d)]) ++ List.replicate (15 - (lg_sl ([.ref ax, .long (lN own), .long (lN oth), .int (zLd own oth), .int (nI fr), .int (nI mm), .int (nI d)])).length) Slot.unset).toArray = ls at hl ⊢
  have hl : lv_has ls 15 [(0, .ref ax), (1, .long (lN own)), (3, .long (lN oth)), (5, .int (zLd own oth)), (6, .int (nI fr)), (7, .int (nI mm)), (8, .int (nI d))] := hl
  have hS : va_S zF s.heap s.heap [] := va_S.rf
  have hk4 := hO.1
  have hl1 := hO.lt
  have hl2 := hQ.lt
  have hp1 := hO.ps
  have hp2 := hQ.ps
  obtain ⟨hm0, hd0, hto⟩ := zcm_spec hcm
  have hO2 : zok k (zsh own fr (fr + mm)) := zok_sh hO hd0 (by omega) (by omega) (by omega)
  have hl3 := hO2.lt
  have hps : psum (zsh own fr (fr + mm)) 16 = psum own 16 + mm := by have := psum_shk hO hd0 (by omega) hto (by omega); omega
  refine lv_iload hx hb dX5_worthBehindMove_0 (lv_at hl 4 rfl) ?_
  refine lv_iload hx hb dX5_worthBehindMove_2 (lv_at hl 5 rfl) ?_
  refine lv_iadd hx hb dX5_worthBehindMove_4 ?_
  refine zz_i (y := nI (fr + mm)) (nI_add fr mm) ?_
  refine lv_istore (lv' := [(9, .int (nI (fr + mm))), (0, .ref ax), (1, .long (lN own)), (3, .long (lN oth)), (5, .int (zLd own oth)), (6, .int (nI fr)), (7, .int (nI mm)), (8, .int (nI d))]) hx hb dX5_worthBehindMove_5 hl (by decide) rfl (fun ls hl => ?_)
  refine lv_lload_n hx hb dX5_worthBehindMove_7 rfl (lv_at hl 2 rfl) ?_
  refine lv_iload hx hb dX5_worthBehindMove_8 (lv_at hl 5 rfl) ?_
  refine lv_iload hx hb dX5_worthBehindMove_10 (lv_at hl 0 rfl) ?_
  refine zro_l (va_runS (As := [.long (lN own), .int (nI fr), .int (nI (fr + mm))]) (rest := []) ⟨hx, hb, hml, hown, hts⟩ (c_X2_shifted l own (by omega) fr (fr + mm) (by omega) (by omega) (dg_le hd0)) (va_cwS 3 hts gX5_worthBehindMove_X2_shifted rfl rfl rfl (by decide +kernel) ⟨(show 0 + 1 ≤ 3 * d + 7 by omega), (show 8 + (4 + 11) + 0 ≤ 92 * d + 229 by omega)⟩) zPu rfl rfl hl.1 rfl (lv_room (Nat.le_of_ble_eq_true rfl)) dX5_worthBehindMove_12 ⟨Nat.zero_le _, Nat.zero_le _⟩) hP hS (fun H locs hP hS => ?_)
  refine lv_lstore (lv' := [(10, .long (lN (zsh own fr (fr + mm)))), (9, .int (nI (fr + mm))), (0, .ref ax), (1, .long (lN own)), (3, .long (lN oth)), (5, .int (zLd own oth)), (6, .int (nI fr)), (7, .int (nI mm)), (8, .int (nI d))]) hx hb dX5_worthBehindMove_15 hl (by decide) rfl (fun ls hl => ?_)
  refine lv_lload hx hb dX5_worthBehindMove_17 (lv_at hl 0 rfl) ?_
  refine zro_i (va_runS (As := [.long (lN (zsh own fr (fr + mm)))]) (rest := []) ⟨hx, hb, hml, hown, hts⟩ (c_X2_isAllHome l (zsh own fr (fr + mm)) (by omega)) (va_cwS 1 hts gX5_worthBehindMove_X2_isAllHome rfl rfl rfl (by decide +kernel) ⟨(show 0 + 1 ≤ 3 * d + 7 by omega), (show 8 + (2 + 11) + 0 ≤ 92 * d + 229 by omega)⟩) zPu rfl rfl hl.1 rfl (lv_room (Nat.le_of_ble_eq_true rfl)) dX5_worthBehindMove_19 ⟨Nat.zero_le _, Nat.zero_le _⟩) hP hS (fun H locs hP hS => ?_)
  refine lv_if_eq (tgt := 28) hx hb dX5_worthBehindMove_22 (by decide) (fun c_22 => ?_) (fun c_22 => ?_)
  · skip
    have c_22 := bI_0.mp c_22
    refine lv_lload_n hx hb dX5_worthBehindMove_28 rfl (lv_at hl 4 rfl) ?_
    refine lv_lstore (lv' := [(12, .long (lN oth)), (10, .long (lN (zsh own fr (fr + mm)))), (9, .int (nI (fr + mm))), (0, .ref ax), (1, .long (lN own)), (3, .long (lN oth)), (5, .int (zLd own oth)), (6, .int (nI fr)), (7, .int (nI mm)), (8, .int (nI d))]) hx hb dX5_worthBehindMove_29 hl (by decide) rfl (fun ls hl => ?_)
    refine lv_iload hx hb dX5_worthBehindMove_31 (lv_at hl 6 rfl) ?_
    refine lv_iload hx hb dX5_worthBehindMove_33 (lv_at hl 8 rfl) ?_
    refine lv_iadd hx hb dX5_worthBehindMove_35 ?_
    refine zz_i (y := zLd (zsh own fr (fr + mm)) oth) (zLd_own hps) ?_
    refine lv_istore (lv' := [(14, .int (zLd (zsh own fr (fr + mm)) oth)), (12, .long (lN oth)), (10, .long (lN (zsh own fr (fr + mm)))), (9, .int (nI (fr + mm))), (0, .ref ax), (1, .long (lN own)), (3, .long (lN oth)), (5, .int (zLd own oth)), (6, .int (nI fr)), (7, .int (nI mm)), (8, .int (nI d))]) hx hb dX5_worthBehindMove_36 hl (by decide) rfl (fun ls hl => ?_)
    refine lv_lload_n hx hb dX5_worthBehindMove_38 rfl (lv_at hl 6 rfl) ?_
    refine lv_iload hx hb dX5_worthBehindMove_39 (lv_at hl 3 rfl) ?_
    refine zro_i (va_runS (As := [.long (lN oth), .int (nI (fr + mm))]) (rest := []) ⟨hx, hb, hml, hown, hts⟩ (c_X2_canBeTaken l oth (by omega) (fr + mm) (by omega)) (va_cwS 2 hts gX5_worthBehindMove_X2_canBeTaken rfl rfl rfl (by decide +kernel) ⟨(show 1 + 1 ≤ 3 * d + 7 by omega), (show 8 + (3 + 11) + 22 ≤ 92 * d + 229 by omega)⟩) zPu rfl rfl hl.1 rfl (lv_room (Nat.le_of_ble_eq_true rfl)) dX5_worthBehindMove_41 ⟨Nat.zero_le _, Nat.zero_le _⟩) hP hS (fun H locs hP hS => ?_)
    refine lv_if_eq (tgt := 63) hx hb dX5_worthBehindMove_44 (by decide) (fun c_44 => ?_) (fun c_44 => ?_)
    · skip
      have c_44 := bI_0.mp c_44
      refine lv_iload hx hb dX5_worthBehindMove_63 (lv_at hl 3 rfl) ?_
      refine zro_i (va_runS (As := [.int (nI (fr + mm))]) (rest := []) ⟨hx, hb, hml, hown, hts⟩ (c_X4_isRosette l (fr + mm) (by omega)) (va_cwS 1 hts gX5_worthBehindMove_X4_isRosette rfl rfl rfl (by decide +kernel) ⟨(show 0 + 1 ≤ 3 * d + 7 by omega), (show 8 + (1 + 11) + 0 ≤ 92 * d + 229 by omega)⟩) zPu rfl rfl hl.1 rfl (lv_room (Nat.le_of_ble_eq_true rfl)) dX5_worthBehindMove_65 ⟨Nat.zero_le _, Nat.zero_le _⟩) hP hS (fun H locs hP hS => ?_)
      refine lv_if_eq (tgt := 84) hx hb dX5_worthBehindMove_68 (by decide) (fun c_68 => ?_) (fun c_68 => ?_)
      · skip
        have c_68 := bI_0.mp c_68
        refine lv_ldc (v := 1000000000) hx hb hown (hts (.constant RX5 105 (1000000000)) (List.mem_of_getElem? (i := 1) rfl)) dX5_worthBehindMove_84 ?_
        refine lv_aload_n hx hb dX5_worthBehindMove_86 rfl (lv_at hl 4 rfl) ?_
        refine lv_lload hx hb dX5_worthBehindMove_87 (lv_at hl 1 rfl) ?_
        refine lv_lload hx hb dX5_worthBehindMove_89 (lv_at hl 2 rfl) ?_
        refine lv_iload hx hb dX5_worthBehindMove_91 (lv_at hl 0 rfl) ?_
        refine lv_ineg hx hb dX5_worthBehindMove_93 ?_
        refine zz_i (y := zLd oth (zsh own fr (fr + mm))) (zLd_neg _ _) ?_
        refine lv_iload hx hb dX5_worthBehindMove_94 (lv_at hl 10 rfl) ?_
        refine zro_i (va_runV (As := [.long (lN oth), .long (lN (zsh own fr (fr + mm))), .int (zLd oth (zsh own fr (fr + mm))), .int (nI d)]) (rest := [.int 1000000000]) ⟨hx, hb, hml, hown, hts⟩ (hT oth (zsh own fr (fr + mm)) hQ hO2) (cwV 4 hts gX5_worthBehindMove_X5_worthToThrow rfl rfl rfl (by decide +kernel) ⟨(show (3 * d + 6) + 1 ≤ 3 * d + 7 by omega), (show 8 + (10 + 11) + (92 * d + 200) ≤ 92 * d + 229 by omega)⟩) (zPc_V (ci := 2) (q0 := 0) zB_X hP hK rfl rfl [0, 1, 2] rfl (zX_at hX hS zF_A)) rfl rfl hl.1 rfl (lv_room (Nat.le_of_ble_eq_true rfl)) dX5_worthBehindMove_96 ⟨Nat.zero_le _, Nat.zero_le _⟩) hP hS (fun H locs hP hS => ?_)
        have hle_96 := zV_le k d oth (zsh own fr (fr + mm))
        refine lv_isub hx hb dX5_worthBehindMove_99 ?_
        refine zz_i (y := nI (1000000000 - (zV k d oth (zsh own fr (fr + mm))))) (pk_sub (a := 1000000000) (b := zV k d oth (zsh own fr (fr + mm))) (by omega)) ?_
        exact W.iret (v := nI (1000000000 - (zV k d oth (zsh own fr (fr + mm))))) hx hb hr (fun t ht hW => ⟨⟨_, (), rfl, (congrArg nI (by rw [zBM, if_neg (by rw [c_22]; decide), if_neg (by rw [c_68]; decide), if_neg (by rw [c_44]; decide)])), trivial⟩, hS.F ht⟩) hS.2.2 dX5_worthBehindMove_100
      · skip
        have c_68 := bI_1.mp c_68
        refine lv_aload_n hx hb dX5_worthBehindMove_71 rfl (lv_at hl 4 rfl) ?_
        refine lv_lload hx hb dX5_worthBehindMove_72 (lv_at hl 2 rfl) ?_
        refine lv_lload hx hb dX5_worthBehindMove_74 (lv_at hl 1 rfl) ?_
        refine lv_iload hx hb dX5_worthBehindMove_76 (lv_at hl 0 rfl) ?_
        refine lv_iload hx hb dX5_worthBehindMove_78 (lv_at hl 10 rfl) ?_
        refine zro_i (va_runV (As := [.long (lN (zsh own fr (fr + mm))), .long (lN oth), .int (zLd (zsh own fr (fr + mm)) oth), .int (nI d)]) (rest := []) ⟨hx, hb, hml, hown, hts⟩ (hT (zsh own fr (fr + mm)) oth hO2 hQ) (cwV 4 hts gX5_worthBehindMove_X5_worthToThrow rfl rfl rfl (by decide +kernel) ⟨(show (3 * d + 6) + 1 ≤ 3 * d + 7 by omega), (show 8 + (10 + 11) + (92 * d + 200) ≤ 92 * d + 229 by omega)⟩) (zPc_V (ci := 2) (q0 := 0) zB_X hP hK rfl rfl [0, 1, 2] rfl (zX_at hX hS zF_A)) rfl rfl hl.1 rfl (lv_room (Nat.le_of_ble_eq_true rfl)) dX5_worthBehindMove_80 ⟨Nat.zero_le _, Nat.zero_le _⟩) hP hS (fun H locs hP hS => ?_)
        have hle_80 := zV_le k d (zsh own fr (fr + mm)) oth
        exact W.iret (v := nI (zV k d (zsh own fr (fr + mm)) oth)) hx hb hr (fun t ht hW => ⟨⟨_, (), rfl, (congrArg nI (by rw [zBM, if_neg (by rw [c_22]; decide), if_pos c_68, if_neg (by rw [c_44]; decide)])), trivial⟩, hS.F ht⟩) hS.2.2 dX5_worthBehindMove_83
    · skip
      have c_44 := bI_1.mp c_44
      obtain ⟨ht5, ht12, htd⟩ := ztk_spec c_44
      have hQ2 : zok k (zsh oth (fr + mm) 0) := zok_sh hQ htd (by omega) (by omega) (by omega)
      have hl4 := hQ2.lt
      have hqs : psum oth 16 = psum (zsh oth (fr + mm) 0) 16 + (fr + mm) := by have := psum_shk hQ htd (by omega) (show 0 ≤ 15 by omega) (by omega); omega
      refine lv_lload_n hx hb dX5_worthBehindMove_47 rfl (lv_at hl 6 rfl) ?_
      refine lv_iload hx hb dX5_worthBehindMove_48 (lv_at hl 3 rfl) ?_
      refine lv_iconst (v := 0) hx hb dX5_worthBehindMove_50 (by decide) ?_
      refine zro_l (va_runS (As := [.long (lN oth), .int (nI (fr + mm)), .int 0]) (rest := []) ⟨hx, hb, hml, hown, hts⟩ (c_X2_shifted l oth (by omega) (fr + mm) 0 (by omega) (by omega) (dg_le htd)) (va_cwS 3 hts gX5_worthBehindMove_X2_shifted rfl rfl rfl (by decide +kernel) ⟨(show 0 + 1 ≤ 3 * d + 7 by omega), (show 8 + (4 + 11) + 0 ≤ 92 * d + 229 by omega)⟩) zPu rfl rfl hl.1 rfl (lv_room (Nat.le_of_ble_eq_true rfl)) dX5_worthBehindMove_51 ⟨Nat.zero_le _, Nat.zero_le _⟩) hP hS (fun H locs hP hS => ?_)
      refine lv_lstore (lv' := [(12, .long (lN (zsh oth (fr + mm) 0))), (14, .int (zLd (zsh own fr (fr + mm)) oth)), (10, .long (lN (zsh own fr (fr + mm)))), (9, .int (nI (fr + mm))), (0, .ref ax), (1, .long (lN own)), (3, .long (lN oth)), (5, .int (zLd own oth)), (6, .int (nI fr)), (7, .int (nI mm)), (8, .int (nI d))]) hx hb dX5_worthBehindMove_54 hl (by decide) rfl (fun ls hl => ?_)
      refine lv_iload hx hb dX5_worthBehindMove_56 (lv_at hl 1 rfl) ?_
      refine lv_iload hx hb dX5_worthBehindMove_58 (lv_at hl 3 rfl) ?_
      refine lv_iadd hx hb dX5_worthBehindMove_60 ?_
      refine zz_i (y := zLd (zsh own fr (fr + mm)) (zsh oth (fr + mm) 0)) (zLd_oth hqs) ?_
      refine lv_istore (lv' := [(14, .int (zLd (zsh own fr (fr + mm)) (zsh oth (fr + mm) 0))), (12, .long (lN (zsh oth (fr + mm) 0))), (10, .long (lN (zsh own fr (fr + mm)))), (9, .int (nI (fr + mm))), (0, .ref ax), (1, .long (lN own)), (3, .long (lN oth)), (5, .int (zLd own oth)), (6, .int (nI fr)), (7, .int (nI mm)), (8, .int (nI d))]) hx hb dX5_worthBehindMove_61 hl (by decide) rfl (fun ls hl => ?_)
      refine lv_iload hx hb dX5_worthBehindMove_63 (lv_at hl 3 rfl) ?_
      refine zro_i (va_runS (As := [.int (nI (fr + mm))]) (rest := []) ⟨hx, hb, hml, hown, hts⟩ (c_X4_isRosette l (fr + mm) (by omega)) (va_cwS 1 hts gX5_worthBehindMove_X4_isRosette rfl rfl rfl (by decide +kernel) ⟨(show 0 + 1 ≤ 3 * d + 7 by omega), (show 8 + (1 + 11) + 0 ≤ 92 * d + 229 by omega)⟩) zPu rfl rfl hl.1 rfl (lv_room (Nat.le_of_ble_eq_true rfl)) dX5_worthBehindMove_65 ⟨Nat.zero_le _, Nat.zero_le _⟩) hP hS (fun H locs hP hS => ?_)
      refine lv_if_eq (tgt := 84) hx hb dX5_worthBehindMove_68 (by decide) (fun c_68 => ?_) (fun c_68 => ?_)
      · skip
        have c_68 := bI_0.mp c_68
        refine lv_ldc (v := 1000000000) hx hb hown (hts (.constant RX5 105 (1000000000)) (List.mem_of_getElem? (i := 1) rfl)) dX5_worthBehindMove_84 ?_
        refine lv_aload_n hx hb dX5_worthBehindMove_86 rfl (lv_at hl 4 rfl) ?_
        refine lv_lload hx hb dX5_worthBehindMove_87 (lv_at hl 1 rfl) ?_
        refine lv_lload hx hb dX5_worthBehindMove_89 (lv_at hl 2 rfl) ?_
        refine lv_iload hx hb dX5_worthBehindMove_91 (lv_at hl 0 rfl) ?_
        refine lv_ineg hx hb dX5_worthBehindMove_93 ?_
        refine zz_i (y := zLd (zsh oth (fr + mm) 0) (zsh own fr (fr + mm))) (zLd_neg _ _) ?_
        refine lv_iload hx hb dX5_worthBehindMove_94 (lv_at hl 10 rfl) ?_
        refine zro_i (va_runV (As := [.long (lN (zsh oth (fr + mm) 0)), .long (lN (zsh own fr (fr + mm))), .int (zLd (zsh oth (fr + mm) 0) (zsh own fr (fr + mm))), .int (nI d)]) (rest := [.int 1000000000]) ⟨hx, hb, hml, hown, hts⟩ (hT (zsh oth (fr + mm) 0) (zsh own fr (fr + mm)) hQ2 hO2) (cwV 4 hts gX5_worthBehindMove_X5_worthToThrow rfl rfl rfl (by decide +kernel) ⟨(show (3 * d + 6) + 1 ≤ 3 * d + 7 by omega), (show 8 + (10 + 11) + (92 * d + 200) ≤ 92 * d + 229 by omega)⟩) (zPc_V (ci := 2) (q0 := 0) zB_X hP hK rfl rfl [0, 1, 2] rfl (zX_at hX hS zF_A)) rfl rfl hl.1 rfl (lv_room (Nat.le_of_ble_eq_true rfl)) dX5_worthBehindMove_96 ⟨Nat.zero_le _, Nat.zero_le _⟩) hP hS (fun H locs hP hS => ?_)
        have hle_96 := zV_le k d (zsh oth (fr + mm) 0) (zsh own fr (fr + mm))
        refine lv_isub hx hb dX5_worthBehindMove_99 ?_
        refine zz_i (y := nI (1000000000 - (zV k d (zsh oth (fr + mm) 0) (zsh own fr (fr + mm))))) (pk_sub (a := 1000000000) (b := zV k d (zsh oth (fr + mm) 0) (zsh own fr (fr + mm))) (by omega)) ?_
        exact W.iret (v := nI (1000000000 - (zV k d (zsh oth (fr + mm) 0) (zsh own fr (fr + mm))))) hx hb hr (fun t ht hW => ⟨⟨_, (), rfl, (congrArg nI (by rw [zBM, if_neg (by rw [c_22]; decide), if_neg (by rw [c_68]; decide), if_pos c_44])), trivial⟩, hS.F ht⟩) hS.2.2 dX5_worthBehindMove_100
      · skip
        have c_68 := bI_1.mp c_68
        refine lv_aload_n hx hb dX5_worthBehindMove_71 rfl (lv_at hl 4 rfl) ?_
        refine lv_lload hx hb dX5_worthBehindMove_72 (lv_at hl 2 rfl) ?_
        refine lv_lload hx hb dX5_worthBehindMove_74 (lv_at hl 1 rfl) ?_
        refine lv_iload hx hb dX5_worthBehindMove_76 (lv_at hl 0 rfl) ?_
        refine lv_iload hx hb dX5_worthBehindMove_78 (lv_at hl 10 rfl) ?_
        refine zro_i (va_runV (As := [.long (lN (zsh own fr (fr + mm))), .long (lN (zsh oth (fr + mm) 0)), .int (zLd (zsh own fr (fr + mm)) (zsh oth (fr + mm) 0)), .int (nI d)]) (rest := []) ⟨hx, hb, hml, hown, hts⟩ (hT (zsh own fr (fr + mm)) (zsh oth (fr + mm) 0) hO2 hQ2) (cwV 4 hts gX5_worthBehindMove_X5_worthToThrow rfl rfl rfl (by decide +kernel) ⟨(show (3 * d + 6) + 1 ≤ 3 * d + 7 by omega), (show 8 + (10 + 11) + (92 * d + 200) ≤ 92 * d + 229 by omega)⟩) (zPc_V (ci := 2) (q0 := 0) zB_X hP hK rfl rfl [0, 1, 2] rfl (zX_at hX hS zF_A)) rfl rfl hl.1 rfl (lv_room (Nat.le_of_ble_eq_true rfl)) dX5_worthBehindMove_80 ⟨Nat.zero_le _, Nat.zero_le _⟩) hP hS (fun H locs hP hS => ?_)
        have hle_80 := zV_le k d (zsh own fr (fr + mm)) (zsh oth (fr + mm) 0)
        exact W.iret (v := nI (zV k d (zsh own fr (fr + mm)) (zsh oth (fr + mm) 0))) hx hb hr (fun t ht hW => ⟨⟨_, (), rfl, (congrArg nI (by rw [zBM, if_neg (by rw [c_22]; decide), if_pos c_68, if_pos c_44])), trivial⟩, hS.F ht⟩) hS.2.2 dX5_worthBehindMove_83
  · skip
    have c_22 := bI_1.mp c_22
    refine lv_ldc (v := 1000000000) hx hb hown (hts (.constant RX5 105 (1000000000)) (List.mem_of_getElem? (i := 1) rfl)) dX5_worthBehindMove_25 ?_
    exact W.iret (v := 1000000000) hx hb hr (fun t ht hW => ⟨⟨_, (), rfl, (congrArg nI (by rw [zBM, if_pos c_22])), trivial⟩, hS.F ht⟩) hS.2.2 dX5_worthBehindMove_27

set_option maxHeartbeats 4000000 in
set_option maxRecDepth 100000 in
theorem c_X5_worthBehindThrow0 (l : Launch) (dC : Nat → ClassId) (dI : Nat → Nat → Nat) (cyI cyJ : ClassId) (tb ax a0 a1 ae aw at_ : Nat) (tI mk wn cnt rh : Int32) (wf : Nat → Int32) (k kk : Nat) (hk1 : 1 ≤ k) (hkk : kk ≤ 60) (h40 : 40 ≤ kk) (htb : zTb kk wf) (d : Nat) (hT : ∀ own oth : Nat, zok k own → zok k oth → Met l yX5_worthToThrow wsX5_worthToThrow ({ frames := 3 * d + 6, cells := 0, slots := 0, locals := 92 * d + 200 }) (zPc [.ref ax, .long (lN own), .long (lN oth), .int (zLd own oth), .int (nI d)] (dC, dI) vwCl [(cyI, .int), (cyJ, .long)] [(ax, .inr (2, [.ref a0, .ref a1, .ref ae, .ref aw, .int (nI k), .int tI, .int mk, .int wn, .int cnt])), (ae, .inr (0, [.ref at_, .int rh])), (at_, .inl (cyI, 13500, .inl wf))] (fun U => zX tb zF U U.heap)) (va_Qi (fun (r : Int32) (_ : Unit) => r = nI (zV k d own oth)) (fun _ _ => True) zF) 0 0 zF) (hM : ∀ own oth fr mm : Nat, zok k own → zok k oth → fr ≤ 14 → mm ≤ 4 → zcm own oth fr mm = true → Met l yX5_worthBehindMove wsX5_worthBehindMove ({ frames := 3 * d + 7, cells := 0, slots := 0, locals := 92 * d + 229 }) (zPc [.ref ax, .long (lN own), .long (lN oth), .int (zLd own oth), .int (nI fr), .int (nI mm), .int (nI d)] (dC, dI) vwCl [(cyI, .int), (cyJ, .long)] [(ax, .inr (2, [.ref a0, .ref a1, .ref ae, .ref aw, .int (nI k), .int tI, .int mk, .int wn, .int cnt])), (ae, .inr (0, [.ref at_, .int rh])), (at_, .inl (cyI, 13500, .inl wf))] (fun U => zX tb zF U U.heap)) (va_Qi (fun (r : Int32) (_ : Unit) => r = nI (zBM (zV k d) own oth fr mm)) (fun _ _ => True) zF) 0 0 zF) (own oth mm : Nat) (hO : zok k own) (hQ : zok k oth) (hmm : mm ≤ 4) : Met l yX5_worthBehindThrow wsX5_worthBehindThrow ({ frames := 3 * d + 8, cells := 0, slots := 0, locals := 92 * d + 263 }) (zPc [.ref ax, .long (lN own), .long (lN oth), .int (zLd own oth), .int (nI mm), .int (nI d)] (dC, dI) vwCl [(cyI, .int), (cyJ, .long)] [(ax, .inr (2, [.ref a0, .ref a1, .ref ae, .ref aw, .int (nI k), .int tI, .int mk, .int wn, .int cnt])), (ae, .inr (0, [.ref at_, .int rh])), (at_, .inl (cyI, 13500, .inl wf))] (fun U => zX tb zF U U.heap)) (va_Qi (fun (r : Int32) (_ : Unit) => r = nI (zBT (zV k d) own oth mm)) (fun _ _ => True) zF) 0 0 zF := by
  refine Met.ofW (cc := cX5_worthBehindThrow) (maxL := 10) (ret := (some .int)) (by decide) rfl ?_
  intro p e s m args below meth c s₁ B hml hv
  obtain ⟨rfl, hP, hK, hX⟩ := hv
  have hx := B.exec
  have hb := B.bytes
  have hr := B.returns
  have hts := atoms_spec (ws := wsX5_worthBehindThrow) B.pre
  have hown : s.vm.findClass RX5 = some m.cls := findClass_of_methodNamed B.named
  have hlocks := B.notSynchronized
  have hl := lv_entry ([.ref ax, .long (lN own), .long (lN oth), .int (zLd own oth), .int (nI mm), .int (nI d)]) (n := 10) (Nat.le_of_ble_eq_true rfl)
  rw [lg_entry_eq]
  generalize (lg_sl ([.ref ax, .long (lN own), .long (lN oth), .int (zLd own oth), .int (nI mm), .int (nI d)]) ++ List.replicate (10 - (lg_sl ([.ref ax, .long (lN own), .long (lN oth), .int (zLd own oth), .int (nI mm), .int (nI d)])).length) Slot.unset).toArray = ls at hl ⊢
  have hl : lv_has ls 10 [(0, .ref ax), (1, .long (lN own)), (3, .long (lN oth)), (5, .int (zLd own oth)), (6, .int (nI mm)), (7, .int (nI d))] := hl
  have hS : va_S zF s.heap s.heap [] := va_S.rf
  generalize hQe : MQ below _ _ _ _ _ _ = Q
  have hk4 := hO.1
  have hl1 := hO.lt
  have hl2 := hQ.lt
  have hp1 := hO.ps
  have hp2 := hQ.ps
  have hgl : ∀ a, (fun fr => zBM (zV k d) own oth fr mm) a ≤ 1000000000 := fun a => zBM_le (zV_le k d) _ _ _ _
  refine lv_iconst (v := -1) hx hb dX5_worthBehindThrow_0 (by decide) ?_
  refine lv_istore (lv' := [(8, .int (-1)), (0, .ref ax), (1, .long (lN own)), (3, .long (lN oth)), (5, .int (zLd own oth)), (6, .int (nI mm)), (7, .int (nI d))]) hx hb dX5_worthBehindThrow_1 hl (by decide) rfl (fun ls hl => ?_)
  refine lv_iconst (v := 0) hx hb dX5_worthBehindThrow_3 (by decide) ?_
  refine lv_istore (lv' := [(9, .int 0), (8, .int (-1)), (0, .ref ax), (1, .long (lN own)), (3, .long (lN oth)), (5, .int (zLd own oth)), (6, .int (nI mm)), (7, .int (nI d))]) hx hb dX5_worthBehindThrow_4 hl (by decide) rfl (fun ls hl => ?_)
  have lp : ∀ (n9 : Nat) (i : Nat) (b : Int32), i ≤ 15 → zBI (fun fr => zBM (zV k d) own oth fr mm) own oth mm i b → 15 - i < n9 → ∀ (H : Heap) (locs : List Loc), va_P (dC, dI) vwCl [(ax, .inr (2, [.ref a0, .ref a1, .ref ae, .ref aw, .int (nI k), .int tI, .int mk, .int wn, .int cnt])), (ae, .inr (0, [.ref at_, .int rh])), (at_, .inl (cyI, 13500, .inl wf))] H → va_S zF s.heap H locs → ∀ ls : Array Slot, lv_has ls 10 [(9, .int (nI i)), (8, .int b), (0, .ref ax), (1, .long (lN own)), (3, .long (lN oth)), (5, .int (zLd own oth)), (6, .int (nI mm)), (7, .int (nI d))] → W p l e (headSpec wsX5_worthBehindThrow ({ frames := 3 * d + 8, cells := 0, slots := 0, locals := 92 * d + 263 })).room s m ([.ref ax, .long (lN own), .long (lN oth), .int (zLd own oth), .int (nI mm), .int (nI d)] : List Value).toArray below meth c H locs 0 0 Q (F0 m 6 ls []) := by
    intro n9
    induction n9 with
    | zero => intro i b hi2 hb9 hm9; exact absurd hm9 (Nat.not_lt_zero _)
    | succ n9 ih6 =>
      intro i b hi2 hb9 hm9 H locs hP hS ls hl
      refine lv_iload hx hb dX5_worthBehindThrow_6 (lv_at hl 0 rfl) ?_
      refine lv_bipush (v := 14) hx hb dX5_worthBehindThrow_8 (by decide) ?_
      refine lv_icmp_gt (tgt := 52) hx hb dX5_worthBehindThrow_10 (by decide) (fun c_10 => ?_) (fun c_10 => ?_)
      · skip
        have c_10 : 14 < i := (nI_ltI (a := 14) (b := i) (by omega) (by omega)).mp c_10
        refine lv_iload hx hb dX5_worthBehindThrow_52 (lv_at hl 1 rfl) ?_
        refine lv_iconst (v := -1) hx hb dX5_worthBehindThrow_54 (by decide) ?_
        refine lv_icmp_eq (tgt := 63) hx hb dX5_worthBehindThrow_55 (by decide) (fun c_55 => ?_) (fun c_55 => ?_)
        · skip
          refine lv_ldc (v := 1000000000) hx hb hown (hts (.constant RX5 105 (1000000000)) (List.mem_of_getElem? (i := 5) rfl)) dX5_worthBehindThrow_63 ?_
          refine lv_aload_n hx hb dX5_worthBehindThrow_65 rfl (lv_at hl 2 rfl) ?_
          refine lv_lload_n hx hb dX5_worthBehindThrow_66 rfl (lv_at hl 4 rfl) ?_
          refine lv_lload_n hx hb dX5_worthBehindThrow_67 rfl (lv_at hl 3 rfl) ?_
          refine lv_iload hx hb dX5_worthBehindThrow_68 (lv_at hl 5 rfl) ?_
          refine lv_ineg hx hb dX5_worthBehindThrow_70 ?_
          refine zz_i (y := zLd oth own) (zLd_neg _ _) ?_
          refine lv_iload hx hb dX5_worthBehindThrow_71 (lv_at hl 7 rfl) ?_
          refine zro_i (va_runV (As := [.long (lN oth), .long (lN own), .int (zLd oth own), .int (nI d)]) (rest := [.int 1000000000]) ⟨hx, hb, hml, hown, hts⟩ (hT oth own hQ hO) (cwV 4 hts gX5_worthBehindThrow_X5_worthToThrow rfl rfl rfl (by decide +kernel) ⟨(show (3 * d + 6) + 1 ≤ 3 * d + 8 by omega), (show 8 + (10 + 11) + (92 * d + 200) ≤ 92 * d + 263 by omega)⟩) (zPc_V (ci := 2) (q0 := 0) zB_X hP hK rfl rfl [0, 1, 2] rfl (zX_at hX hS zF_A)) rfl rfl hl.1 rfl (lv_room (Nat.le_of_ble_eq_true rfl)) dX5_worthBehindThrow_73 ⟨Nat.zero_le _, Nat.zero_le _⟩) hP hS (fun H locs hP hS => ?_)
          have hle_73 := zV_le k d oth own
          refine lv_isub hx hb dX5_worthBehindThrow_76 ?_
          refine zz_i (y := nI (1000000000 - (zV k d oth own))) (pk_sub (a := 1000000000) (b := zV k d oth own) (by omega)) ?_
          subst hQe
          exact W.iret (v := nI (1000000000 - (zV k d oth own))) hx hb hr (fun t ht hW => ⟨⟨_, (), rfl, (by have h1 := zBI_f hb9 hgl c_55; rw [show i = 15 by omega] at h1; rw [zBT, if_neg (by rw [h1]; decide)]), trivial⟩, hS.F ht⟩) hS.2.2 dX5_worthBehindThrow_77
        · skip
          refine lv_iload hx hb dX5_worthBehindThrow_58 (lv_at hl 1 rfl) ?_
          refine lv_goto (tgt := 77) hx hb dX5_worthBehindThrow_60 (by decide) ?_
          subst hQe
          exact W.iret (v := b) hx hb hr (fun t ht hW => ⟨⟨_, (), rfl, (by obtain ⟨h1, h2⟩ := zBI_t hb9 c_55; rw [show i = 15 by omega] at h1 h2; rw [h2, zBT, if_pos h1]), trivial⟩, hS.F ht⟩) hS.2.2 dX5_worthBehindThrow_77
      · skip
        have c_10 : ¬ 14 < i := fun h9 => c_10 ((nI_ltI (a := 14) (b := i) (by omega) (by omega)).mpr h9)
        refine lv_lload_n hx hb dX5_worthBehindThrow_13 rfl (lv_at hl 3 rfl) ?_
        refine lv_lload_n hx hb dX5_worthBehindThrow_14 rfl (lv_at hl 4 rfl) ?_
        refine lv_iload hx hb dX5_worthBehindThrow_15 (lv_at hl 0 rfl) ?_
        refine lv_iload hx hb dX5_worthBehindThrow_17 (lv_at hl 6 rfl) ?_
        refine zro_i (va_runS (As := [.long (lN own), .long (lN oth), .int (nI i), .int (nI mm)]) (rest := []) ⟨hx, hb, hml, hown, hts⟩ (c_X2_canMove l own oth i mm (nI mm) hO.lt hQ.lt (by omega) (by omega) (Or.inl rfl)) (va_cwS 4 hts gX5_worthBehindThrow_X2_canMove rfl rfl rfl (by decide +kernel) ⟨(show 1 + 1 ≤ 3 * d + 8 by omega), (show 8 + (7 + 11) + 22 ≤ 92 * d + 263 by omega)⟩) zPu rfl rfl hl.1 rfl (lv_room (Nat.le_of_ble_eq_true rfl)) dX5_worthBehindThrow_19 ⟨Nat.zero_le _, Nat.zero_le _⟩) hP hS (fun H locs hP hS => ?_)
        refine lv_if_eq (tgt := 46) hx hb dX5_worthBehindThrow_22 (by decide) (fun c_22 => ?_) (fun c_22 => ?_)
        · skip
          have c_22 := bI_0.mp c_22
          refine lv_iinc (v := nI (i + 1)) (lv' := [(9, .int (nI (i + 1))), (8, .int b), (0, .ref ax), (1, .long (lN own)), (3, .long (lN oth)), (5, .int (zLd own oth)), (6, .int (nI mm)), (7, .int (nI d))]) hx hb dX5_worthBehindThrow_46 hl (k := 0) rfl (nI_1 i) (by decide) rfl (fun ls hl => ?_)
          refine lv_goto (tgt := 6) hx hb dX5_worthBehindThrow_49 (by decide) ?_
          exact ih6 (i + 1) _ (by omega) (zBI_n hb9 c_22) (by omega) _ _ hP hS _ (lv_sub hl [0, 1, 2, 3, 4, 5, 6, 7] rfl)
        · skip
          have c_22 := bI_1.mp c_22
          refine lv_iload hx hb dX5_worthBehindThrow_25 (lv_at hl 1 rfl) ?_
          refine lv_aload_n hx hb dX5_worthBehindThrow_27 rfl (lv_at hl 2 rfl) ?_
          refine lv_lload_n hx hb dX5_worthBehindThrow_28 rfl (lv_at hl 3 rfl) ?_
          refine lv_lload_n hx hb dX5_worthBehindThrow_29 rfl (lv_at hl 4 rfl) ?_
          refine lv_iload hx hb dX5_worthBehindThrow_30 (lv_at hl 5 rfl) ?_
          refine lv_iload hx hb dX5_worthBehindThrow_32 (lv_at hl 0 rfl) ?_
          refine lv_iload hx hb dX5_worthBehindThrow_34 (lv_at hl 6 rfl) ?_
          refine lv_iload hx hb dX5_worthBehindThrow_36 (lv_at hl 7 rfl) ?_
          refine zro_i (va_runV (As := [.long (lN own), .long (lN oth), .int (zLd own oth), .int (nI i), .int (nI mm), .int (nI d)]) (rest := [.int b]) ⟨hx, hb, hml, hown, hts⟩ (hM own oth i mm hO hQ (by omega) (by omega) c_22) (cwV 6 hts gX5_worthBehindThrow_X5_worthBehindMove rfl rfl rfl (by decide +kernel) ⟨(show (3 * d + 7) + 1 ≤ 3 * d + 8 by omega), (show 8 + (15 + 11) + (92 * d + 229) ≤ 92 * d + 263 by omega)⟩) (zPc_V (ci := 2) (q0 := 0) zB_X hP hK rfl rfl [0, 1, 2] rfl (zX_at hX hS zF_A)) rfl rfl hl.1 rfl (lv_room (Nat.le_of_ble_eq_true rfl)) dX5_worthBehindThrow_38 ⟨Nat.zero_le _, Nat.zero_le _⟩) hP hS (fun H locs hP hS => ?_)
          refine va_mmax hx hb (hml.trans hl.1.symm) hown (hts (.methodLink RX5 171 Lib.Math.max.name) (List.mem_of_getElem? (i := 1) rfl)) (hts (.static Lib.Math.max.name) (List.mem_of_getElem? (i := 2) rfl)) (hts (.initialized "java/lang/Math") (List.mem_of_getElem? (i := 3) rfl)) (hts (.code Lib.Math.max.name Lib.Math.max.code 2 (some .int)) (List.mem_of_getElem? (i := 4) rfl)) (by show 1 ≤ 3 * d + 8; omega) (by show 0 + 13 ≤ 92 * d + 263; omega) (Nat.zero_le _) (Nat.zero_le _) dX5_worthBehindThrow_41 ?_
          refine lv_istore (lv' := [(8, .int (if b < nI (zBM (zV k d) own oth i mm) then nI (zBM (zV k d) own oth i mm) else b)), (9, .int (nI i)), (0, .ref ax), (1, .long (lN own)), (3, .long (lN oth)), (5, .int (zLd own oth)), (6, .int (nI mm)), (7, .int (nI d))]) hx hb dX5_worthBehindThrow_44 hl (by decide) rfl (fun ls hl => ?_)
          refine lv_iinc (v := nI (i + 1)) (lv' := [(9, .int (nI (i + 1))), (8, .int (if b < nI (zBM (zV k d) own oth i mm) then nI (zBM (zV k d) own oth i mm) else b)), (0, .ref ax), (1, .long (lN own)), (3, .long (lN oth)), (5, .int (zLd own oth)), (6, .int (nI mm)), (7, .int (nI d))]) hx hb dX5_worthBehindThrow_46 hl (k := 1) rfl (nI_1 i) (by decide) rfl (fun ls hl => ?_)
          refine lv_goto (tgt := 6) hx hb dX5_worthBehindThrow_49 (by decide) ?_
          exact ih6 (i + 1) _ (by omega) (zBI_y hb9 hgl c_22) (by omega) _ _ hP hS _ (lv_sub hl [0, 1, 2, 3, 4, 5, 6, 7] rfl)
  exact lp 16 0 (-1) (by omega) (zBI_0 _ _ _ _) (by omega) _ _ hP hS _ (lv_sub hl [0, 1, 2, 3, 4, 5, 6, 7] rfl)

set_option maxHeartbeats 4000000 in
set_option maxRecDepth 100000 in
theorem c_X5_worthToThrow0 (l : Launch) (dC : Nat → ClassId) (dI : Nat → Nat → Nat) (cyI cyJ : ClassId) (tb ax a0 a1 ae aw at_ : Nat) (tI mk wn cnt rh : Int32) (wf : Nat → Int32) (k kk : Nat) (hk1 : 1 ≤ k) (hkk : kk ≤ 60) (h40 : 40 ≤ kk) (htb : zTb kk wf) (own oth : Nat) (hO : zok k own) (hQ : zok k oth) : Met l yX5_worthToThrow wsX5_worthToThrow ({ frames := 3 * 0 + 6, cells := 0, slots := 0, locals := 92 * 0 + 200 }) (zPc [.ref ax, .long (lN own), .long (lN oth), .int (zLd own oth), .int (nI 0)] (dC, dI) vwCl [(cyI, .int), (cyJ, .long)] [(ax, .inr (2, [.ref a0, .ref a1, .ref ae, .ref aw, .int (nI k), .int tI, .int mk, .int wn, .int cnt])), (ae, .inr (0, [.ref at_, .int rh])), (at_, .inl (cyI, 13500, .inl wf))] (fun U => zX tb zF U U.heap)) (va_Qi (fun (r : Int32) (_ : Unit) => r = nI (zV k 0 own oth)) (fun _ _ => True) zF) 0 0 zF := by
  refine Met.ofW (cc := cX5_worthToThrow) (maxL := 10) (ret := (some .int)) (by decide) rfl ?_
  intro p e s m args below meth c s₁ B hml hv
  obtain ⟨rfl, hP, hK, hX⟩ := hv
  have hx := B.exec
  have hb := B.bytes
  have hr := B.returns
  have hts := atoms_spec (ws := wsX5_worthToThrow) B.pre
  have hown : s.vm.findClass RX5 = some m.cls := findClass_of_methodNamed B.named
  have hlocks := B.notSynchronized
  have hl := lv_entry ([.ref ax, .long (lN own), .long (lN oth), .int (zLd own oth), .int (nI 0)]) (n := 10) (Nat.le_of_ble_eq_true rfl)
  rw [lg_entry_eq]
  generalize (lg_sl ([.ref ax, .long (lN own), .long (lN oth), .int (zLd own oth), .int (nI 0)]) ++ List.replicate (10 - (lg_sl ([.ref ax, .long (lN own), .long (lN oth), .int (zLd own oth), .int (nI 0)])).length) Slot.unset).toArray = ls at hl ⊢
  have hl : lv_has ls 10 [(0, .ref ax), (1, .long (lN own)), (3, .long (lN oth)), (5, .int (zLd own oth)), (6, .int (nI 0))] := hl
  have hS : va_S zF s.heap s.heap [] := va_S.rf
  generalize hQe : MQ below _ _ _ _ _ _ = Q
  have hk4 := hO.1
  have hl1 := hO.lt
  have hl2 := hQ.lt
  have hp1 := hO.ps
  have hp2 := hQ.ps
  refine lv_iload hx hb dX5_worthToThrow_0 (lv_at hl 4 rfl) ?_
  refine lv_if_gt (tgt := 14) hx hb dX5_worthToThrow_2 (by decide) (fun c_2 => ?_) (fun c_2 => ?_)
  · skip
    have c_2 : 0 < 0 := (nI_ltI (a := 0) (b := 0) (by omega) (by omega)).mp c_2
    exact absurd c_2 (Nat.lt_irrefl _)
  · skip
    have c_2 : ¬ 0 < 0 := fun h9 => c_2 ((nI_ltI (a := 0) (b := 0) (by omega) (by omega)).mpr h9)
    refine lv_aload_n hx hb dX5_worthToThrow_5 rfl (lv_at hl 0 rfl) ?_
    refine lv_lload_n hx hb dX5_worthToThrow_6 rfl (lv_at hl 1 rfl) ?_
    refine lv_lload_n hx hb dX5_worthToThrow_7 rfl (lv_at hl 2 rfl) ?_
    refine lv_iload hx hb dX5_worthToThrow_8 (lv_at hl 3 rfl) ?_
    refine zro_i (va_runV (As := [.long (lN own), .long (lN oth), .int (zLd own oth)]) (rest := []) ⟨hx, hb, hml, hown, hts⟩ (c_X5_worthAtOnce l dC dI cyI cyJ tb ax a0 a1 ae aw at_ tI mk wn cnt rh wf k kk hk1 hkk h40 htb own oth hO hQ) (cwV 3 hts gX5_worthToThrow_X5_worthAtOnce rfl rfl rfl (by decide +kernel) ⟨(show 2 + 1 ≤ 3 * 0 + 6 by omega), (show 8 + (7 + 11) + 44 ≤ 92 * 0 + 200 by omega)⟩) (zPc_V (ci := 2) (q0 := 0) zB_T hP hK rfl rfl [0, 1, 2] rfl (fun _ _ _ => trivial)) rfl rfl hl.1 rfl (lv_room (Nat.le_of_ble_eq_true rfl)) dX5_worthToThrow_10 ⟨Nat.zero_le _, Nat.zero_le _⟩) hP hS (fun H locs hP hS => ?_)
    subst hQe
    exact W.iret (v := nI (zLf k own oth)) hx hb hr (fun t ht hW => ⟨⟨_, (), rfl, rfl, trivial⟩, hS.F ht⟩) hS.2.2 dX5_worthToThrow_13

set_option maxHeartbeats 4000000 in
set_option maxRecDepth 100000 in
theorem c_X5_worthToThrow1 (l : Launch) (dC : Nat → ClassId) (dI : Nat → Nat → Nat) (cyI cyJ : ClassId) (tb ax a0 a1 ae aw at_ : Nat) (tI mk wn cnt rh : Int32) (wf : Nat → Int32) (k kk : Nat) (hk1 : 1 ≤ k) (hkk : kk ≤ 60) (h40 : 40 ≤ kk) (htb : zTb kk wf) (d : Nat) (hd9 : d ≤ 100) (hB : ∀ own oth mm : Nat, zok k own → zok k oth → mm ≤ 4 → Met l yX5_worthBehindThrow wsX5_worthBehindThrow ({ frames := 3 * d + 8, cells := 0, slots := 0, locals := 92 * d + 263 }) (zPc [.ref ax, .long (lN own), .long (lN oth), .int (zLd own oth), .int (nI mm), .int (nI d)] (dC, dI) vwCl [(cyI, .int), (cyJ, .long)] [(ax, .inr (2, [.ref a0, .ref a1, .ref ae, .ref aw, .int (nI k), .int tI, .int mk, .int wn, .int cnt])), (ae, .inr (0, [.ref at_, .int rh])), (at_, .inl (cyI, 13500, .inl wf))] (fun U => zX tb zF U U.heap)) (va_Qi (fun (r : Int32) (_ : Unit) => r = nI (zBT (zV k d) own oth mm)) (fun _ _ => True) zF) 0 0 zF) (own oth : Nat) (hO : zok k own) (hQ : zok k oth) : Met l yX5_worthToThrow wsX5_worthToThrow ({ frames := 3 * (d + 1) + 6, cells := 0, slots := 0, locals := 92 * (d + 1) + 200 }) (zPc [.ref ax, .long (lN own), .long (lN oth), .int (zLd own oth), .int (nI (d + 1))] (dC, dI) vwCl [(cyI, .int), (cyJ, .long)] [(ax, .inr (2, [.ref a0, .ref a1, .ref ae, .ref aw, .int (nI k), .int tI, .int mk, .int wn, .int cnt])), (ae, .inr (0, [.ref at_, .int rh])), (at_, .inl (cyI, 13500, .inl wf))] (fun U => zX tb zF U U.heap)) (va_Qi (fun (r : Int32) (_ : Unit) => r = nI (zV k (d + 1) own oth)) (fun _ _ => True) zF) 0 0 zF := by
  refine Met.ofW (cc := cX5_worthToThrow) (maxL := 10) (ret := (some .int)) (by decide) rfl ?_
  intro p e s m args below meth c s₁ B hml hv
  obtain ⟨rfl, hP, hK, hX⟩ := hv
  have hx := B.exec
  have hb := B.bytes
  have hr := B.returns
  have hts := atoms_spec (ws := wsX5_worthToThrow) B.pre
  have hown : s.vm.findClass RX5 = some m.cls := findClass_of_methodNamed B.named
  have hlocks := B.notSynchronized
  have hl := lv_entry ([.ref ax, .long (lN own), .long (lN oth), .int (zLd own oth), .int (nI (d + 1))]) (n := 10) (Nat.le_of_ble_eq_true rfl)
  rw [lg_entry_eq]
  generalize (lg_sl ([.ref ax, .long (lN own), .long (lN oth), .int (zLd own oth), .int (nI (d + 1))]) ++ List.replicate (10 - (lg_sl ([.ref ax, .long (lN own), .long (lN oth), .int (zLd own oth), .int (nI (d + 1))])).length) Slot.unset).toArray = ls at hl ⊢
  have hl : lv_has ls 10 [(0, .ref ax), (1, .long (lN own)), (3, .long (lN oth)), (5, .int (zLd own oth)), (6, .int (nI (d + 1)))] := hl
  have hS : va_S zF s.heap s.heap [] := va_S.rf
  generalize hQe : MQ below _ _ _ _ _ _ = Q
  have hk4 := hO.1
  have hl1 := hO.lt
  have hl2 := hQ.lt
  have hp1 := hO.ps
  have hp2 := hQ.ps
  refine lv_iload hx hb dX5_worthToThrow_0 (lv_at hl 4 rfl) ?_
  refine lv_if_gt (tgt := 14) hx hb dX5_worthToThrow_2 (by decide) (fun c_2 => ?_) (fun c_2 => ?_)
  · skip
    have c_2 : 0 < (d + 1) := (nI_ltI (a := 0) (b := d + 1) (by omega) (by omega)).mp c_2
    have hfl : ∀ m, m ≤ 4 → (zBT (zV k d) own oth) m ≤ 1000000000 := fun m _ => zBT_le (zV_le k d) _ _ _
    refine lv_lconst (v := 0) hx hb dX5_worthToThrow_14 (by decide) ?_
    refine lv_lstore (lv' := [(7, .long 0), (0, .ref ax), (1, .long (lN own)), (3, .long (lN oth)), (5, .int (zLd own oth)), (6, .int (nI (d + 1)))]) hx hb dX5_worthToThrow_15 hl (by decide) rfl (fun ls hl => ?_)
    refine lv_iconst (v := 0) hx hb dX5_worthToThrow_17 (by decide) ?_
    refine lv_istore (lv' := [(9, .int 0), (7, .long 0), (0, .ref ax), (1, .long (lN own)), (3, .long (lN oth)), (5, .int (zLd own oth)), (6, .int (nI (d + 1)))]) hx hb dX5_worthToThrow_18 hl (by decide) rfl (fun ls hl => ?_)
    have lp : ∀ (n9 : Nat) (i : Nat) (sv : Int64), i ≤ 5 → sv = lN (zsm (zBT (zV k d) own oth) i) → 5 - i < n9 → ∀ (H : Heap) (locs : List Loc), va_P (dC, dI) vwCl [(ax, .inr (2, [.ref a0, .ref a1, .ref ae, .ref aw, .int (nI k), .int tI, .int mk, .int wn, .int cnt])), (ae, .inr (0, [.ref at_, .int rh])), (at_, .inl (cyI, 13500, .inl wf))] H → va_S zF s.heap H locs → ∀ ls : Array Slot, lv_has ls 10 [(9, .int (nI i)), (7, .long sv), (0, .ref ax), (1, .long (lN own)), (3, .long (lN oth)), (5, .int (zLd own oth)), (6, .int (nI (d + 1)))] → W p l e (headSpec wsX5_worthToThrow ({ frames := 3 * (d + 1) + 6, cells := 0, slots := 0, locals := 92 * (d + 1) + 200 })).room s m ([.ref ax, .long (lN own), .long (lN oth), .int (zLd own oth), .int (nI (d + 1))] : List Value).toArray below meth c H locs 0 0 Q (F0 m 20 ls []) := by
      intro n9
      induction n9 with
      | zero => intro i sv hi2 hsv hm9; exact absurd hm9 (Nat.not_lt_zero _)
      | succ n9 ih20 =>
        intro i sv hi2 hsv hm9 H locs hP hS ls hl
        refine lv_iload hx hb dX5_worthToThrow_20 (lv_at hl 0 rfl) ?_
        refine lv_iconst (v := 4) hx hb dX5_worthToThrow_22 (by decide) ?_
        refine lv_icmp_gt (tgt := 59) hx hb dX5_worthToThrow_23 (by decide) (fun c_23 => ?_) (fun c_23 => ?_)
        · skip
          have c_23 : 4 < i := (nI_ltI (a := 4) (b := i) (by omega) (by omega)).mp c_23
          refine lv_lload hx hb dX5_worthToThrow_59 (lv_at hl 1 rfl) ?_
          refine lv_ldc2 (v := 16) hx hb hown (hts (.constantLong RX5 169 (16)) (List.mem_of_getElem? (i := 1) rfl)) dX5_worthToThrow_61 ?_
          refine lv_ldiv hx hb dX5_worthToThrow_64 (by decide) ?_
          refine zz_l (y := lN (zsm (zBT (zV k d) own oth) 5 / 16)) (by rw [hsv, show i = 5 by omega]; exact zdiv16 (zsm_le hfl 5 (by omega))) ?_
          refine lv_l2i (v := (lN (zsm (zBT (zV k d) own oth) 5 / 16) : Int64).toInt32) hx hb dX5_worthToThrow_65 rfl ?_
          refine zz_i (y := nI (zsm (zBT (zV k d) own oth) 5 / 16)) (lN_i _) ?_
          subst hQe
          exact W.iret (v := nI (zsm (zBT (zV k d) own oth) 5 / 16)) hx hb hr (fun t ht hW => ⟨⟨_, (), rfl, rfl, trivial⟩, hS.F ht⟩) hS.2.2 dX5_worthToThrow_66
        · skip
          have c_23 : ¬ 4 < i := fun h9 => c_23 ((nI_ltI (a := 4) (b := i) (by omega) (by omega)).mpr h9)
          refine lv_lload hx hb dX5_worthToThrow_26 (lv_at hl 1 rfl) ?_
          refine lv_iload hx hb dX5_worthToThrow_28 (lv_at hl 0 rfl) ?_
          refine zro_i (va_runS (As := [.int (nI i)]) (rest := [.long sv]) ⟨hx, hb, hml, hown, hts⟩ (c_X0_timesIn16 l tb i (by omega)) (va_cwS 1 hts gX5_worthToThrow_X0_timesIn16 rfl rfl rfl (by decide +kernel) ⟨(show 0 + 1 ≤ 3 * (d + 1) + 6 by omega), (show 8 + (1 + 11) + 0 ≤ 92 * (d + 1) + 200 by omega)⟩) (zPx zB_X (zX_at hX hS zF_A)) rfl rfl hl.1 rfl (lv_room (Nat.le_of_ble_eq_true rfl)) dX5_worthToThrow_30 ⟨Nat.zero_le _, Nat.zero_le _⟩) hP hS (fun H locs hP hS => ?_)
          refine lv_i2l (v := (nI (ztm i) : Int32).toInt64) hx hb dX5_worthToThrow_33 rfl ?_
          refine zz_l (y := lN (ztm i)) (ztm_l i) ?_
          refine lv_aload_n hx hb dX5_worthToThrow_34 rfl (lv_at hl 2 rfl) ?_
          refine lv_lload_n hx hb dX5_worthToThrow_35 rfl (lv_at hl 3 rfl) ?_
          refine lv_lload_n hx hb dX5_worthToThrow_36 rfl (lv_at hl 4 rfl) ?_
          refine lv_iload hx hb dX5_worthToThrow_37 (lv_at hl 5 rfl) ?_
          refine lv_iload hx hb dX5_worthToThrow_39 (lv_at hl 0 rfl) ?_
          refine lv_iload hx hb dX5_worthToThrow_41 (lv_at hl 6 rfl) ?_
          refine lv_iconst (v := 1) hx hb dX5_worthToThrow_43 (by decide) ?_
          refine lv_isub hx hb dX5_worthToThrow_44 ?_
          refine zz_i (y := nI d) (nI_pred d) ?_
          refine zro_i (va_runV (As := [.long (lN own), .long (lN oth), .int (zLd own oth), .int (nI i), .int (nI d)]) (rest := [.long (lN (ztm i)), .long sv]) ⟨hx, hb, hml, hown, hts⟩ (hB own oth i hO hQ (by omega)) (cwV 5 hts gX5_worthToThrow_X5_worthBehindThrow rfl rfl rfl (by decide +kernel) ⟨(show (3 * d + 8) + 1 ≤ 3 * (d + 1) + 6 by omega), (show 8 + (10 + 11) + (92 * d + 263) ≤ 92 * (d + 1) + 200 by omega)⟩) (zPc_V (ci := 2) (q0 := 0) zB_X hP hK rfl rfl [0, 1, 2] rfl (zX_at hX hS zF_A)) rfl rfl hl.1 rfl (lv_room (Nat.le_of_ble_eq_true rfl)) dX5_worthToThrow_45 ⟨Nat.zero_le _, Nat.zero_le _⟩) hP hS (fun H locs hP hS => ?_)
          refine lv_i2l (v := (nI (zBT (zV k d) own oth i) : Int32).toInt64) hx hb dX5_worthToThrow_48 rfl ?_
          refine zz_l (y := lN ((zBT (zV k d) own oth) i)) (nI_lw (hfl i (by omega))) ?_
          refine lv_lmul hx hb dX5_worthToThrow_49 ?_
          refine lv_ladd hx hb dX5_worthToThrow_50 ?_
          refine zz_l (y := lN (zsm (zBT (zV k d) own oth) (i + 1))) (by rw [hsv]; exact zsm_s (zBT (zV k d) own oth) i) ?_
          refine lv_lstore (lv' := [(7, .long (lN (zsm (zBT (zV k d) own oth) (i + 1)))), (9, .int (nI i)), (0, .ref ax), (1, .long (lN own)), (3, .long (lN oth)), (5, .int (zLd own oth)), (6, .int (nI (d + 1)))]) hx hb dX5_worthToThrow_51 hl (by decide) rfl (fun ls hl => ?_)
          refine lv_iinc (v := nI (i + 1)) (lv' := [(9, .int (nI (i + 1))), (7, .long (lN (zsm (zBT (zV k d) own oth) (i + 1)))), (0, .ref ax), (1, .long (lN own)), (3, .long (lN oth)), (5, .int (zLd own oth)), (6, .int (nI (d + 1)))]) hx hb dX5_worthToThrow_53 hl (k := 1) rfl (nI_1 i) (by decide) rfl (fun ls hl => ?_)
          refine lv_goto (tgt := 20) hx hb dX5_worthToThrow_56 (by decide) ?_
          exact ih20 (i + 1) _ (by omega) rfl (by omega) _ _ hP hS _ (lv_sub hl [0, 1, 2, 3, 4, 5, 6] rfl)
    exact lp 6 0 0 (by omega) rfl (by omega) _ _ hP hS _ (lv_sub hl [0, 1, 2, 3, 4, 5, 6] rfl)
  · skip
    have c_2 : ¬ 0 < (d + 1) := fun h9 => c_2 ((nI_ltI (a := 0) (b := d + 1) (by omega) (by omega)).mpr h9)
    exact absurd (by omega) c_2

theorem c_X5_worthToThrow (l : Launch) (dC : Nat → ClassId) (dI : Nat → Nat → Nat) (cyI cyJ : ClassId) (tb ax a0 a1 ae aw at_ : Nat) (tI mk wn cnt rh : Int32) (wf : Nat → Int32) (k kk : Nat) (hk1 : 1 ≤ k) (hkk : kk ≤ 60) (h40 : 40 ≤ kk) (htb : zTb kk wf) : ∀ d, d ≤ 100 → ∀ own oth : Nat, zok k own → zok k oth → Met l yX5_worthToThrow wsX5_worthToThrow ({ frames := 3 * d + 6, cells := 0, slots := 0, locals := 92 * d + 200 }) (zPc [.ref ax, .long (lN own), .long (lN oth), .int (zLd own oth), .int (nI d)] (dC, dI) vwCl [(cyI, .int), (cyJ, .long)] [(ax, .inr (2, [.ref a0, .ref a1, .ref ae, .ref aw, .int (nI k), .int tI, .int mk, .int wn, .int cnt])), (ae, .inr (0, [.ref at_, .int rh])), (at_, .inl (cyI, 13500, .inl wf))] (fun U => zX tb zF U U.heap)) (va_Qi (fun (r : Int32) (_ : Unit) => r = nI (zV k d own oth)) (fun _ _ => True) zF) 0 0 zF := by
  intro d
  induction d with
  | zero => intro _ own oth hO hQ; exact c_X5_worthToThrow0 l dC dI cyI cyJ tb ax a0 a1 ae aw at_ tI mk wn cnt rh wf k kk hk1 hkk h40 htb own oth hO hQ
  | succ d ih =>
    intro h9 own oth hO hQ
    have hT := ih (by omega)
    have hM : ∀ own oth fr mm : Nat, zok k own → zok k oth → fr ≤ 14 → mm ≤ 4 → zcm own oth fr mm = true → Met l yX5_worthBehindMove wsX5_worthBehindMove ({ frames := 3 * d + 7, cells := 0, slots := 0, locals := 92 * d + 229 }) (zPc [.ref ax, .long (lN own), .long (lN oth), .int (zLd own oth), .int (nI fr), .int (nI mm), .int (nI d)] (dC, dI) vwCl [(cyI, .int), (cyJ, .long)] [(ax, .inr (2, [.ref a0, .ref a1, .ref ae, .ref aw, .int (nI k), .int tI, .int mk, .int wn, .int cnt])), (ae, .inr (0, [.ref at_, .int rh])), (at_, .inl (cyI, 13500, .inl wf))] (fun U => zX tb zF U U.heap)) (va_Qi (fun (r : Int32) (_ : Unit) => r = nI (zBM (zV k d) own oth fr mm)) (fun _ _ => True) zF) 0 0 zF := fun own oth fr mm hO hQ hfr hmm hcm => c_X5_worthBehindMove0 l dC dI cyI cyJ tb ax a0 a1 ae aw at_ tI mk wn cnt rh wf k kk hk1 hkk h40 htb d hT own oth fr mm hO hQ hfr hmm hcm
    exact c_X5_worthToThrow1 l dC dI cyI cyJ tb ax a0 a1 ae aw at_ tI mk wn cnt rh wf k kk hk1 hkk h40 htb d (by omega) (fun own oth mm hO hQ hmm => c_X5_worthBehindThrow0 l dC dI cyI cyJ tb ax a0 a1 ae aw at_ tI mk wn cnt rh wf k kk hk1 hkk h40 htb d hT hM own oth mm hO hQ hmm) own oth hO hQ
theorem c_X5_worthBehindMove (l : Launch) (dC : Nat → ClassId) (dI : Nat → Nat → Nat) (cyI cyJ : ClassId) (tb ax a0 a1 ae aw at_ : Nat) (tI mk wn cnt rh : Int32) (wf : Nat → Int32) (k kk : Nat) (hk1 : 1 ≤ k) (hkk : kk ≤ 60) (h40 : 40 ≤ kk) (htb : zTb kk wf) (d : Nat) (hd9 : d ≤ 100) : ∀ own oth fr mm : Nat, zok k own → zok k oth → fr ≤ 14 → mm ≤ 4 → zcm own oth fr mm = true → Met l yX5_worthBehindMove wsX5_worthBehindMove ({ frames := 3 * d + 7, cells := 0, slots := 0, locals := 92 * d + 229 }) (zPc [.ref ax, .long (lN own), .long (lN oth), .int (zLd own oth), .int (nI fr), .int (nI mm), .int (nI d)] (dC, dI) vwCl [(cyI, .int), (cyJ, .long)] [(ax, .inr (2, [.ref a0, .ref a1, .ref ae, .ref aw, .int (nI k), .int tI, .int mk, .int wn, .int cnt])), (ae, .inr (0, [.ref at_, .int rh])), (at_, .inl (cyI, 13500, .inl wf))] (fun U => zX tb zF U U.heap)) (va_Qi (fun (r : Int32) (_ : Unit) => r = nI (zBM (zV k d) own oth fr mm)) (fun _ _ => True) zF) 0 0 zF := fun own oth fr mm hO hQ hfr hmm hcm => c_X5_worthBehindMove0 l dC dI cyI cyJ tb ax a0 a1 ae aw at_ tI mk wn cnt rh wf k kk hk1 hkk h40 htb d (c_X5_worthToThrow l dC dI cyI cyJ tb ax a0 a1 ae aw at_ tI mk wn cnt rh wf k kk hk1 hkk h40 htb d hd9) own oth fr mm hO hQ hfr hmm hcm
theorem c_X5_worthBehindThrow (l : Launch) (dC : Nat → ClassId) (dI : Nat → Nat → Nat) (cyI cyJ : ClassId) (tb ax a0 a1 ae aw at_ : Nat) (tI mk wn cnt rh : Int32) (wf : Nat → Int32) (k kk : Nat) (hk1 : 1 ≤ k) (hkk : kk ≤ 60) (h40 : 40 ≤ kk) (htb : zTb kk wf) (d : Nat) (hd9 : d ≤ 100) : ∀ own oth mm : Nat, zok k own → zok k oth → mm ≤ 4 → Met l yX5_worthBehindThrow wsX5_worthBehindThrow ({ frames := 3 * d + 8, cells := 0, slots := 0, locals := 92 * d + 263 }) (zPc [.ref ax, .long (lN own), .long (lN oth), .int (zLd own oth), .int (nI mm), .int (nI d)] (dC, dI) vwCl [(cyI, .int), (cyJ, .long)] [(ax, .inr (2, [.ref a0, .ref a1, .ref ae, .ref aw, .int (nI k), .int tI, .int mk, .int wn, .int cnt])), (ae, .inr (0, [.ref at_, .int rh])), (at_, .inl (cyI, 13500, .inl wf))] (fun U => zX tb zF U U.heap)) (va_Qi (fun (r : Int32) (_ : Unit) => r = nI (zBT (zV k d) own oth mm)) (fun _ _ => True) zF) 0 0 zF := fun own oth mm hO hQ hmm => c_X5_worthBehindThrow0 l dC dI cyI cyJ tb ax a0 a1 ae aw at_ tI mk wn cnt rh wf k kk hk1 hkk h40 htb d (c_X5_worthToThrow l dC dI cyI cyJ tb ax a0 a1 ae aw at_ tI mk wn cnt rh wf k kk hk1 hkk h40 htb d hd9) (c_X5_worthBehindMove l dC dI cyI cyJ tb ax a0 a1 ae aw at_ tI mk wn cnt rh wf k kk hk1 hkk h40 htb d hd9) own oth mm hO hQ hmm
end
section
/-! the class reads its game -/
/-- ao, aq: where the side to move and the other one lie -/
def zSd (tn a0 a1 ao aq : Nat) : Prop := (tn = 0 ∧ ao = a0 ∧ aq = a1) ∨ (tn = 1 ∧ ao = a1 ∧ aq = a0)
theorem zSd_o {tn a0 a1 ao aq : Nat} (h : zSd tn a0 a1 ao aq) : (if tn = 0 then a0 else a1) = ao := by
  rcases h with ⟨h1, h2, -⟩ | ⟨h1, h2, -⟩ <;> rw [h1, h2] <;> rfl
theorem zSd_q {tn a0 a1 ao aq : Nat} (h : zSd tn a0 a1 ao aq) : (if 1 - tn = 0 then a0 else a1) = aq := by
  rcases h with ⟨h1, -, h2⟩ | ⟨h1, -, h2⟩ <;> rw [h1, h2] <;> rfl
theorem zSd_le {tn a0 a1 ao aq : Nat} (h : zSd tn a0 a1 ao aq) : tn ≤ 1 := by
  rcases h with ⟨h1, -, -⟩ | ⟨h1, -, -⟩ <;> omega
theorem z_nd {al bl : List Nat} (h : al.Nodup) (is : List Nat) (hn : va_nd is = true) (e : is.map (fun i => al[i]?) = bl.map some) : bl.Nodup := by
  refine List.pairwise_iff_getElem.mpr (fun i j hi hj hij e2 => ?_)
  have hlen : is.length = bl.length := by have := congrArg List.length e; simpa using this
  have f : ∀ x, x < bl.length → ∃ y, is[x]? = some y ∧ al[y]? = bl[x]? := by
    intro x hx
    have h1 : (is.map (fun i => al[i]?))[x]? = (bl.map some)[x]? := by rw [e]
    rw [List.getElem?_map, List.getElem?_map, List.getElem?_eq_getElem (show x < is.length by omega), List.getElem?_eq_getElem hx] at h1
    exact ⟨is[x]'(by omega), List.getElem?_eq_getElem (by omega), by rw [List.getElem?_eq_getElem hx]; exact Option.some.inj h1⟩
  obtain ⟨y1, h1, h2⟩ := f i (by omega)
  obtain ⟨y2, h3, h4⟩ := f j hj
  have h5 : al[y1]? = al[y2]? := by rw [h2, h4, List.getElem?_eq_getElem hi, List.getElem?_eq_getElem hj, e2]
  have h6 : y1 < al.length := by
    rcases Nat.lt_or_ge y1 al.length with h7 | h7
    · exact h7
    · rw [List.getElem?_eq_none h7] at h2
      rw [List.getElem?_eq_getElem (show i < bl.length by omega)] at h2
      cases h2
  have h7 : y1 = y2 := (List.getElem?_inj h6 h).mp h5
  have h8 := va_nd_inj is hn i j y1 h1 (by rw [h7]; exact h3)
  omega
theorem zA_pl {al bl : List Nat} (is : List Nat) (e : is.map (fun i => al[i]?) = bl.map some) : ∀ q, zA bl q → zA al q := by
  intro q hq
  have h1 : some q ∈ bl.map some := List.mem_map_of_mem hq
  rw [← e] at h1
  obtain ⟨i, -, h2⟩ := List.mem_map.mp h1
  exact List.mem_of_getElem? h2
theorem zNum_s (own oth m j : Nat) : zNum own oth m (j + 1) = zNum own oth m j + (if zcm own oth j m = true then 1 else 0) := rfl
theorem zNum_le (own oth m : Nat) : ∀ j, zNum own oth m j ≤ j := by
  intro j
  induction j with
  | zero => exact Nat.le_refl _
  | succ j ih =>
    rw [zNum_s]
    split <;> omega
/-- how many of the first j rank ahead of place pl with worth w -/
def zCB (wb : Nat → Int32) (pl : Nat) (w : Int32) : Nat → Nat
  | 0 => 0
  | j + 1 => zCB wb pl w j + (if w < wb j ∨ (wb j = w ∧ j < pl) then 1 else 0)
theorem zCB_s (wb : Nat → Int32) (pl : Nat) (w : Int32) (j : Nat) : zCB wb pl w (j + 1) = zCB wb pl w j + (if w < wb j ∨ (wb j = w ∧ j < pl) then 1 else 0) := rfl
theorem zmk_ne {mk : Int32} {mm : Nat} (h : zmk mk mm) (c : ¬ mk = -1) : mk = nI mm := by
  rcases h with h | h
  · exact h
  · exact absurd h.1 c
/-- the worth of the position for the side whose turn it is -/
def zWT (k tn : Nat) (wn mk : Int32) (mm d own oth : Nat) : Int32 :=
  if wn = -1 then (if mk = -1 then nI (zV k d own oth) else nI (zBT (zV k d) own oth mm)) else (if wn = nI tn then 1000000000 else 0)
/-- the worth behind the move from j, or none -/
def zWB (k d own oth mm j : Nat) : Int32 := if zcm own oth j mm = true then nI (zBM (zV k d) own oth j mm) else -1
theorem zWB_n {k d own oth mm i : Nat} {g : Nat → Int32} (hg : ∀ j, j < i → g j = zWB k d own oth mm j) (c : zcm own oth i mm = false) : ∀ j, j < i + 1 → upd g i (-1) j = zWB k d own oth mm j := by
  intro j hj
  rcases Nat.lt_or_ge j i with h | h
  · rw [pk_un (by omega)]; exact hg j h
  · rw [show j = i by omega, pk_us, zWB, if_neg (by rw [c]; decide)]
theorem zWB_y {k d own oth mm i : Nat} {g : Nat → Int32} (hg : ∀ j, j < i → g j = zWB k d own oth mm j) (c : zcm own oth i mm = true) : ∀ j, j < i + 1 → upd g i (nI (zBM (zV k d) own oth i mm)) j = zWB k d own oth mm j := by
  intro j hj
  rcases Nat.lt_or_ge j i with h | h
  · rw [pk_un (by omega)]; exact hg j h
  · rw [show j = i by omega, pk_us, zWB, if_pos c]
set_option maxHeartbeats 4000000 in
set_option maxRecDepth 100000 in
theorem c_X5_sideOf (l : Launch) (dC : Nat → ClassId) (dI : Nat → Nat → Nat) (cyI cyJ : ClassId) (ax a0 a1 ae aw : Nat) (pI tI mk wn cnt : Int32) (x9 : Nat) (hx9 : x9 ≤ 1) : Met l yX5_sideOf wsX5_sideOf ({ frames := 0, cells := 0, slots := 0, locals := 0 }) (zPc [.ref ax, .int (nI x9)] (dC, dI) vwCl [(cyI, .int), (cyJ, .long)] [(ax, .inr (2, [.ref a0, .ref a1, .ref ae, .ref aw, .int pI, .int tI, .int mk, .int wn, .int cnt]))] (fun _ => True)) (va_Qr (fun (_ : Unit) => True) (fun _ (r : Nat) _ => r = (if x9 = 0 then a0 else a1)) zF) 0 0 zF := by
  refine Met.ofW (cc := cX5_sideOf) (maxL := 2) (ret := (some (.object "RoyalUrTable$Side"))) (by decide) rfl ?_
  intro p e s m args below meth c s₁ B hml hv
  obtain ⟨rfl, hP, hK, hX⟩ := hv
  have hx := B.exec
  have hb := B.bytes
  have hr := B.returns
  have hts := atoms_spec (ws := wsX5_sideOf) B.pre
  have hown : s.vm.findClass RX5 = some m.cls := findClass_of_methodNamed B.named
  have hlocks := B.notSynchronized
  have hinX5 : ∀ w ∈ wsX50, w ∈ wsX5_sideOf := by decide +kernel
  have hl := lv_entry ([.ref ax, .int (nI x9)]) (n := 2) (Nat.le_of_ble_eq_true rfl)
  rw [lg_entry_eq]
  generalize (lg_sl ([.ref ax, .int (nI x9)]) ++ List.replicate (2 - (lg_sl ([.ref ax, .int (nI x9)])).length) Slot.unset).toArray = ls at hl ⊢
  have hl : lv_has ls 2 [(0, .ref ax), (1, .int (nI x9))] := hl
  have hS : va_S zF s.heap s.heap [] := va_S.rf
  refine lv_iload_n hx hb dX5_sideOf_0 rfl (lv_at hl 1 rfl) ?_
  refine lv_if_ne (tgt := 11) hx hb dX5_sideOf_1 (by decide) (fun c_1 => ?_) (fun c_1 => ?_)
  · skip
    have c_1 : ¬ x9 = 0 := fun h9 => c_1 ((nI_eq (a := x9) (b := 0) (by omega) (by omega)).mpr h9)
    refine lv_aload_n hx hb dX5_sideOf_11 rfl (lv_at hl 0 rfl) ?_
    refine va_get (D := (dC, dI)) (ci := 2) (v := .ref a1) (C := RX5) (T := TX5) (N := 9) hx hb hts hinX5 hown hK hP 0 rfl rfl 1 (by decide) (hts (.fieldLink RX5 16 "RoyalUrTable" "side1" "LRoyalUrTable$Side;") (List.mem_of_getElem? (i := 2) rfl)) (fun _ h9 => h9) rfl dX5_sideOf_12 ?_
    exact W.aret (v := .ref a1) hx hb hr (Or.inl ⟨_, rfl⟩) (Or.inr ⟨_, rfl⟩) (fun t ht hW => ⟨⟨(), _, rfl, trivial, (if_neg c_1).symm⟩, hS.F ht⟩) hS.2.2 dX5_sideOf_15
  · skip
    have c_1 : x9 = 0 := (nI_eq (a := x9) (b := 0) (by omega) (by omega)).mp c_1
    refine lv_aload_n hx hb dX5_sideOf_4 rfl (lv_at hl 0 rfl) ?_
    refine va_get (D := (dC, dI)) (ci := 2) (v := .ref a0) (C := RX5) (T := TX5) (N := 9) hx hb hts hinX5 hown hK hP 0 rfl rfl 0 (by decide) (hts (.fieldLink RX5 10 "RoyalUrTable" "side0" "LRoyalUrTable$Side;") (List.mem_of_getElem? (i := 1) rfl)) (fun _ h9 => h9) rfl dX5_sideOf_5 ?_
    refine lv_goto (tgt := 15) hx hb dX5_sideOf_8 (by decide) ?_
    exact W.aret (v := .ref a0) hx hb hr (Or.inl ⟨_, rfl⟩) (Or.inr ⟨_, rfl⟩) (fun t ht hW => ⟨⟨(), _, rfl, trivial, (if_pos c_1).symm⟩, hS.F ht⟩) hS.2.2 dX5_sideOf_15

set_option maxHeartbeats 4000000 in
set_option maxRecDepth 100000 in
theorem c_X5_canMoveFrom (l : Launch) (dC : Nat → ClassId) (dI : Nat → Nat → Nat) (cyI cyJ : ClassId) (ax a0 a1 ae aw ao aq : Nat) (mk wn cnt lo lq : Int32) (k tn own oth : Nat) (hsd : zSd tn a0 a1 ao aq) (hO : zok k own) (hQ : zok k oth) (mm pl : Nat) (hmk : zmk mk mm) (hmm : mm ≤ 4) (hpl : pl ≤ 14) : Met l yX5_canMoveFrom wsX5_canMoveFrom ({ frames := 2, cells := 0, slots := 0, locals := 48 }) (zPc [.ref ax, .int (nI pl)] (dC, dI) vwCl [(cyI, .int), (cyJ, .long)] [(ax, .inr (2, [.ref a0, .ref a1, .ref ae, .ref aw, .int (nI k), .int (nI tn), .int mk, .int wn, .int cnt])), (ao, .inr (1, [.long (lN own), .int lo])), (aq, .inr (1, [.long (lN oth), .int lq]))] (fun _ => True)) (va_Qi (fun (r : Int32) (_ : Unit) => r = bI (zcm own oth pl mm)) (fun _ _ => True) zF) 0 0 zF := by
  refine Met.ofW (cc := cX5_canMoveFrom) (maxL := 2) (ret := (some .boolean)) (by decide) rfl ?_
  intro p e s m args below meth c s₁ B hml hv
  obtain ⟨rfl, hP, hK, hX⟩ := hv
  have hx := B.exec
  have hb := B.bytes
  have hr := B.returns
  have hts := atoms_spec (ws := wsX5_canMoveFrom) B.pre
  have hown : s.vm.findClass RX5 = some m.cls := findClass_of_methodNamed B.named
  have hlocks := B.notSynchronized
  have hinX3 : ∀ w ∈ wsX30, w ∈ wsX5_canMoveFrom := by decide +kernel
  have hinX5 : ∀ w ∈ wsX50, w ∈ wsX5_canMoveFrom := by decide +kernel
  have hl := lv_entry ([.ref ax, .int (nI pl)]) (n := 2) (Nat.le_of_ble_eq_true rfl)
  rw [lg_entry_eq]
  generalize (lg_sl ([.ref ax, .int (nI pl)]) ++ List.replicate (2 - (lg_sl ([.ref ax, .int (nI pl)])).length) Slot.unset).toArray = ls at hl ⊢
  have hl : lv_has ls 2 [(0, .ref ax), (1, .int (nI pl))] := hl
  have hS : va_S zF s.heap s.heap [] := va_S.rf
  have htn := zSd_le hsd
  refine lv_aload_n hx hb dX5_canMoveFrom_0 rfl (lv_at hl 0 rfl) ?_
  refine lv_aload_n hx hb dX5_canMoveFrom_1 rfl (lv_at hl 0 rfl) ?_
  refine va_get (D := (dC, dI)) (ci := 2) (v := .int (nI tn)) (C := RX5) (T := TX5) (N := 9) hx hb hts hinX5 hown hK hP 0 rfl rfl 5 (by decide) (hts (.fieldLink RX5 59 "RoyalUrTable" "turn" "I") (List.mem_of_getElem? (i := 1) rfl)) (fun _ h9 => h9) rfl dX5_canMoveFrom_2 ?_
  refine zro_r (va_runV (As := [.int (nI tn)]) (rest := []) ⟨hx, hb, hml, hown, hts⟩ (c_X5_sideOf l dC dI cyI cyJ ax a0 a1 ae aw (nI k) (nI tn) mk wn cnt tn (by omega)) (cwV 1 hts gX5_canMoveFrom_X5_sideOf rfl rfl rfl (by decide +kernel) ⟨Nat.le_of_ble_eq_true rfl, Nat.le_of_ble_eq_true rfl⟩) (zPc_V (ci := 2) (q0 := 0) zB_T hP hK rfl rfl [0] rfl (fun _ _ _ => trivial)) rfl rfl hl.1 rfl (lv_room (Nat.le_of_ble_eq_true rfl)) dX5_canMoveFrom_5 ⟨Nat.zero_le _, Nat.zero_le _⟩) hP hS (fun H locs hP hS => ?_)
  refine zz_r (y := ao) (zSd_o hsd) ?_
  refine va_get (D := (dC, dI)) (ci := 1) (v := .long (lN own)) (C := RX3) (T := TX3) (N := 2) hx hb hts hinX3 hown hK hP 1 rfl rfl 0 (by decide) (hts (.fieldLink RX5 70 "RoyalUrTable$Side" "layout" "J") (List.mem_of_getElem? (i := 2) rfl)) (fun _ h9 => h9) rfl dX5_canMoveFrom_8 ?_
  refine lv_aload_n hx hb dX5_canMoveFrom_11 rfl (lv_at hl 0 rfl) ?_
  refine lv_iconst (v := 1) hx hb dX5_canMoveFrom_12 (by decide) ?_
  refine lv_aload_n hx hb dX5_canMoveFrom_13 rfl (lv_at hl 0 rfl) ?_
  refine va_get (D := (dC, dI)) (ci := 2) (v := .int (nI tn)) (C := RX5) (T := TX5) (N := 9) hx hb hts hinX5 hown hK hP 0 rfl rfl 5 (by decide) (hts (.fieldLink RX5 59 "RoyalUrTable" "turn" "I") (List.mem_of_getElem? (i := 1) rfl)) (fun _ h9 => h9) rfl dX5_canMoveFrom_14 ?_
  refine lv_isub hx hb dX5_canMoveFrom_17 ?_
  refine zz_i (y := nI (1 - tn)) (pk_sub (a := 1) (b := tn) (by omega)) ?_
  refine zro_r (va_runV (As := [.int (nI (1 - tn))]) (rest := [.long (lN own)]) ⟨hx, hb, hml, hown, hts⟩ (c_X5_sideOf l dC dI cyI cyJ ax a0 a1 ae aw (nI k) (nI tn) mk wn cnt (1 - tn) (by omega)) (cwV 1 hts gX5_canMoveFrom_X5_sideOf rfl rfl rfl (by decide +kernel) ⟨Nat.le_of_ble_eq_true rfl, Nat.le_of_ble_eq_true rfl⟩) (zPc_V (ci := 2) (q0 := 0) zB_T hP hK rfl rfl [0] rfl (fun _ _ _ => trivial)) rfl rfl hl.1 rfl (lv_room (Nat.le_of_ble_eq_true rfl)) dX5_canMoveFrom_18 ⟨Nat.zero_le _, Nat.zero_le _⟩) hP hS (fun H locs hP hS => ?_)
  refine zz_r (y := aq) (zSd_q hsd) ?_
  refine va_get (D := (dC, dI)) (ci := 1) (v := .long (lN oth)) (C := RX3) (T := TX3) (N := 2) hx hb hts hinX3 hown hK hP 2 rfl rfl 0 (by decide) (hts (.fieldLink RX5 70 "RoyalUrTable$Side" "layout" "J") (List.mem_of_getElem? (i := 2) rfl)) (fun _ h9 => h9) rfl dX5_canMoveFrom_21 ?_
  refine lv_iload_n hx hb dX5_canMoveFrom_24 rfl (lv_at hl 1 rfl) ?_
  refine lv_aload_n hx hb dX5_canMoveFrom_25 rfl (lv_at hl 0 rfl) ?_
  refine va_get (D := (dC, dI)) (ci := 2) (v := .int mk) (C := RX5) (T := TX5) (N := 9) hx hb hts hinX5 hown hK hP 0 rfl rfl 6 (by decide) (hts (.fieldLink RX5 46 "RoyalUrTable" "marksTold" "I") (List.mem_of_getElem? (i := 3) rfl)) (fun _ h9 => h9) rfl dX5_canMoveFrom_26 ?_
  refine zro_i (va_runS (As := [.long (lN own), .long (lN oth), .int (nI pl), .int mk]) (rest := []) ⟨hx, hb, hml, hown, hts⟩ (c_X2_canMove l own oth pl mm mk hO.lt hQ.lt (by omega) hmm hmk) (va_cwS 4 hts gX5_canMoveFrom_X2_canMove rfl rfl rfl (by decide +kernel) ⟨Nat.le_of_ble_eq_true rfl, Nat.le_of_ble_eq_true rfl⟩) zPu rfl rfl hl.1 rfl (lv_room (Nat.le_of_ble_eq_true rfl)) dX5_canMoveFrom_29 ⟨Nat.zero_le _, Nat.zero_le _⟩) hP hS (fun H locs hP hS => ?_)
  exact W.zret (v := bI (zcm own oth pl mm)) hx hb hr (bI_nar _) (fun t ht hW => ⟨⟨_, (), rfl, rfl, trivial⟩, hS.F ht⟩) hS.2.2 dX5_canMoveFrom_32

set_option maxHeartbeats 4000000 in
set_option maxRecDepth 100000 in
theorem c_X5_countMoves (l : Launch) (dC : Nat → ClassId) (dI : Nat → Nat → Nat) (cyI cyJ : ClassId) (ax a0 a1 ae aw ao aq : Nat) (mk wn cnt lo lq : Int32) (k tn own oth : Nat) (hsd : zSd tn a0 a1 ao aq) (hO : zok k own) (hQ : zok k oth) (mm : Nat) (mj : Int32) (hmk : zmk mj mm) (hmm : mm ≤ 4) : Met l yX5_countMoves wsX5_countMoves ({ frames := 2, cells := 0, slots := 0, locals := 48 }) (zPc [.ref ax, .int mj] (dC, dI) vwCl [(cyI, .int), (cyJ, .long)] [(ax, .inr (2, [.ref a0, .ref a1, .ref ae, .ref aw, .int (nI k), .int (nI tn), .int mk, .int wn, .int cnt])), (ao, .inr (1, [.long (lN own), .int lo])), (aq, .inr (1, [.long (lN oth), .int lq]))] (fun _ => True)) (va_Qi (fun (r : Int32) (_ : Unit) => r = nI (zNum own oth mm 15)) (fun _ _ => True) zF) 0 0 zF := by
  refine Met.ofW (cc := cX5_countMoves) (maxL := 8) (ret := (some .int)) (by decide) rfl ?_
  intro p e s m args below meth c s₁ B hml hv
  obtain ⟨rfl, hP, hK, hX⟩ := hv
  have hx := B.exec
  have hb := B.bytes
  have hr := B.returns
  have hts := atoms_spec (ws := wsX5_countMoves) B.pre
  have hown : s.vm.findClass RX5 = some m.cls := findClass_of_methodNamed B.named
  have hlocks := B.notSynchronized
  have hinX3 : ∀ w ∈ wsX30, w ∈ wsX5_countMoves := by decide +kernel
  have hinX5 : ∀ w ∈ wsX50, w ∈ wsX5_countMoves := by decide +kernel
  have hl := lv_entry ([.ref ax, .int mj]) (n := 8) (Nat.le_of_ble_eq_true rfl)
  rw [lg_entry_eq]
  generalize (lg_sl ([.ref ax, .int mj]) ++ List.replicate (8 - (lg_sl ([.ref ax, .int mj])).length) Slot.unset).toArray = ls at hl ⊢
  have hl : lv_has ls 8 [(0, .ref ax), (1, .int mj)] := hl
  have hS : va_S zF s.heap s.heap [] := va_S.rf
  generalize hQe : MQ below _ _ _ _ _ _ = Q
  have htn := zSd_le hsd
  refine lv_aload_n hx hb dX5_countMoves_0 rfl (lv_at hl 0 rfl) ?_
  refine lv_aload_n hx hb dX5_countMoves_1 rfl (lv_at hl 0 rfl) ?_
  refine va_get (D := (dC, dI)) (ci := 2) (v := .int (nI tn)) (C := RX5) (T := TX5) (N := 9) hx hb hts hinX5 hown hK hP 0 rfl rfl 5 (by decide) (hts (.fieldLink RX5 59 "RoyalUrTable" "turn" "I") (List.mem_of_getElem? (i := 1) rfl)) (fun _ h9 => h9) rfl dX5_countMoves_2 ?_
  refine zro_r (va_runV (As := [.int (nI tn)]) (rest := []) ⟨hx, hb, hml, hown, hts⟩ (c_X5_sideOf l dC dI cyI cyJ ax a0 a1 ae aw (nI k) (nI tn) mk wn cnt tn (by omega)) (cwV 1 hts gX5_countMoves_X5_sideOf rfl rfl rfl (by decide +kernel) ⟨Nat.le_of_ble_eq_true rfl, Nat.le_of_ble_eq_true rfl⟩) (zPc_V (ci := 2) (q0 := 0) zB_T hP hK rfl rfl [0] rfl (fun _ _ _ => trivial)) rfl rfl hl.1 rfl (lv_room (Nat.le_of_ble_eq_true rfl)) dX5_countMoves_5 ⟨Nat.zero_le _, Nat.zero_le _⟩) hP hS (fun H locs hP hS => ?_)
  refine zz_r (y := ao) (zSd_o hsd) ?_
  refine va_get (D := (dC, dI)) (ci := 1) (v := .long (lN own)) (C := RX3) (T := TX3) (N := 2) hx hb hts hinX3 hown hK hP 1 rfl rfl 0 (by decide) (hts (.fieldLink RX5 70 "RoyalUrTable$Side" "layout" "J") (List.mem_of_getElem? (i := 2) rfl)) (fun _ h9 => h9) rfl dX5_countMoves_8 ?_
  refine lv_lstore_n (lv' := [(2, .long (lN own)), (0, .ref ax), (1, .int mj)]) hx hb dX5_countMoves_11 rfl hl (by decide) rfl (fun ls hl => ?_)
  refine lv_aload_n hx hb dX5_countMoves_12 rfl (lv_at hl 1 rfl) ?_
  refine lv_iconst (v := 1) hx hb dX5_countMoves_13 (by decide) ?_
  refine lv_aload_n hx hb dX5_countMoves_14 rfl (lv_at hl 1 rfl) ?_
  refine va_get (D := (dC, dI)) (ci := 2) (v := .int (nI tn)) (C := RX5) (T := TX5) (N := 9) hx hb hts hinX5 hown hK hP 0 rfl rfl 5 (by decide) (hts (.fieldLink RX5 59 "RoyalUrTable" "turn" "I") (List.mem_of_getElem? (i := 1) rfl)) (fun _ h9 => h9) rfl dX5_countMoves_15 ?_
  refine lv_isub hx hb dX5_countMoves_18 ?_
  refine zz_i (y := nI (1 - tn)) (pk_sub (a := 1) (b := tn) (by omega)) ?_
  refine zro_r (va_runV (As := [.int (nI (1 - tn))]) (rest := []) ⟨hx, hb, hml, hown, hts⟩ (c_X5_sideOf l dC dI cyI cyJ ax a0 a1 ae aw (nI k) (nI tn) mk wn cnt (1 - tn) (by omega)) (cwV 1 hts gX5_countMoves_X5_sideOf rfl rfl rfl (by decide +kernel) ⟨Nat.le_of_ble_eq_true rfl, Nat.le_of_ble_eq_true rfl⟩) (zPc_V (ci := 2) (q0 := 0) zB_T hP hK rfl rfl [0] rfl (fun _ _ _ => trivial)) rfl rfl hl.1 rfl (lv_room (Nat.le_of_ble_eq_true rfl)) dX5_countMoves_19 ⟨Nat.zero_le _, Nat.zero_le _⟩) hP hS (fun H locs hP hS => ?_)
  refine zz_r (y := aq) (zSd_q hsd) ?_
  refine va_get (D := (dC, dI)) (ci := 1) (v := .long (lN oth)) (C := RX3) (T := TX3) (N := 2) hx hb hts hinX3 hown hK hP 2 rfl rfl 0 (by decide) (hts (.fieldLink RX5 70 "RoyalUrTable$Side" "layout" "J") (List.mem_of_getElem? (i := 2) rfl)) (fun _ h9 => h9) rfl dX5_countMoves_22 ?_
  refine lv_lstore (lv' := [(4, .long (lN oth)), (2, .long (lN own)), (0, .ref ax), (1, .int mj)]) hx hb dX5_countMoves_25 hl (by decide) rfl (fun ls hl => ?_)
  refine lv_iconst (v := 0) hx hb dX5_countMoves_27 (by decide) ?_
  refine lv_istore (lv' := [(6, .int 0), (4, .long (lN oth)), (2, .long (lN own)), (0, .ref ax), (1, .int mj)]) hx hb dX5_countMoves_28 hl (by decide) rfl (fun ls hl => ?_)
  refine lv_iconst (v := 0) hx hb dX5_countMoves_30 (by decide) ?_
  refine lv_istore (lv' := [(7, .int 0), (6, .int 0), (4, .long (lN oth)), (2, .long (lN own)), (0, .ref ax), (1, .int mj)]) hx hb dX5_countMoves_31 hl (by decide) rfl (fun ls hl => ?_)
  have lp : ∀ (n9 : Nat) (i : Nat) (cv : Nat), i ≤ 15 → cv = zNum own oth mm i → 15 - i < n9 → ∀ (H : Heap) (locs : List Loc), va_P (dC, dI) vwCl [(ax, .inr (2, [.ref a0, .ref a1, .ref ae, .ref aw, .int (nI k), .int (nI tn), .int mk, .int wn, .int cnt])), (ao, .inr (1, [.long (lN own), .int lo])), (aq, .inr (1, [.long (lN oth), .int lq]))] H → va_S zF s.heap H locs → ∀ ls : Array Slot, lv_has ls 8 [(7, .int (nI i)), (6, .int (nI cv)), (4, .long (lN oth)), (2, .long (lN own)), (0, .ref ax), (1, .int mj)] → W p l e (headSpec wsX5_countMoves ({ frames := 2, cells := 0, slots := 0, locals := 48 })).room s m ([.ref ax, .int mj] : List Value).toArray below meth c H locs 0 0 Q (F0 m 33 ls []) := by
    intro n9
    induction n9 with
    | zero => intro i cv hi2 hcv hm9; exact absurd hm9 (Nat.not_lt_zero _)
    | succ n9 ih33 =>
      intro i cv hi2 hcv hm9 H locs hP hS ls hl
      refine lv_iload hx hb dX5_countMoves_33 (lv_at hl 0 rfl) ?_
      refine lv_bipush (v := 14) hx hb dX5_countMoves_35 (by decide) ?_
      refine lv_icmp_gt (tgt := 61) hx hb dX5_countMoves_37 (by decide) (fun c_37 => ?_) (fun c_37 => ?_)
      · skip
        have c_37 : 14 < i := (nI_ltI (a := 14) (b := i) (by omega) (by omega)).mp c_37
        refine lv_iload hx hb dX5_countMoves_61 (lv_at hl 1 rfl) ?_
        subst hQe
        exact W.iret (v := nI cv) hx hb hr (fun t ht hW => ⟨⟨_, (), rfl, (by rw [hcv, show i = 15 by omega]), trivial⟩, hS.F ht⟩) hS.2.2 dX5_countMoves_63
      · skip
        have c_37 : ¬ 14 < i := fun h9 => c_37 ((nI_ltI (a := 14) (b := i) (by omega) (by omega)).mpr h9)
        refine lv_lload_n hx hb dX5_countMoves_40 rfl (lv_at hl 3 rfl) ?_
        refine lv_lload hx hb dX5_countMoves_41 (lv_at hl 2 rfl) ?_
        refine lv_iload hx hb dX5_countMoves_43 (lv_at hl 0 rfl) ?_
        refine lv_iload_n hx hb dX5_countMoves_45 rfl (lv_at hl 5 rfl) ?_
        refine zro_i (va_runS (As := [.long (lN own), .long (lN oth), .int (nI i), .int mj]) (rest := []) ⟨hx, hb, hml, hown, hts⟩ (c_X2_canMove l own oth i mm mj hO.lt hQ.lt (by omega) hmm hmk) (va_cwS 4 hts gX5_countMoves_X2_canMove rfl rfl rfl (by decide +kernel) ⟨Nat.le_of_ble_eq_true rfl, Nat.le_of_ble_eq_true rfl⟩) zPu rfl rfl hl.1 rfl (lv_room (Nat.le_of_ble_eq_true rfl)) dX5_countMoves_46 ⟨Nat.zero_le _, Nat.zero_le _⟩) hP hS (fun H locs hP hS => ?_)
        refine lv_if_eq (tgt := 55) hx hb dX5_countMoves_49 (by decide) (fun c_49 => ?_) (fun c_49 => ?_)
        · skip
          have c_49 := bI_0.mp c_49
          refine lv_iinc (v := nI (i + 1)) (lv' := [(7, .int (nI (i + 1))), (6, .int (nI cv)), (4, .long (lN oth)), (2, .long (lN own)), (0, .ref ax), (1, .int mj)]) hx hb dX5_countMoves_55 hl (k := 0) rfl (nI_1 i) (by decide) rfl (fun ls hl => ?_)
          refine lv_goto (tgt := 33) hx hb dX5_countMoves_58 (by decide) ?_
          exact ih33 (i + 1) _ (by omega) (by rw [zNum_s, if_neg (by rw [c_49]; decide), Nat.add_zero]; exact hcv) (by omega) _ _ hP hS _ (lv_sub hl [0, 1, 2, 3, 4, 5] rfl)
        · skip
          have c_49 := bI_1.mp c_49
          refine lv_iinc (v := nI (cv + 1)) (lv' := [(6, .int (nI (cv + 1))), (7, .int (nI i)), (4, .long (lN oth)), (2, .long (lN own)), (0, .ref ax), (1, .int mj)]) hx hb dX5_countMoves_52 hl (k := 1) rfl (nI_1 cv) (by decide) rfl (fun ls hl => ?_)
          refine lv_iinc (v := nI (i + 1)) (lv' := [(7, .int (nI (i + 1))), (6, .int (nI (cv + 1))), (4, .long (lN oth)), (2, .long (lN own)), (0, .ref ax), (1, .int mj)]) hx hb dX5_countMoves_55 hl (k := 1) rfl (nI_1 i) (by decide) rfl (fun ls hl => ?_)
          refine lv_goto (tgt := 33) hx hb dX5_countMoves_58 (by decide) ?_
          exact ih33 (i + 1) _ (by omega) (by rw [zNum_s, if_pos c_49, hcv]) (by omega) _ _ hP hS _ (lv_sub hl [0, 1, 2, 3, 4, 5] rfl)
  exact lp 16 0 0 (by omega) rfl (by omega) _ _ hP hS _ (lv_sub hl [0, 1, 2, 3, 4, 5] rfl)

set_option maxHeartbeats 4000000 in
set_option maxRecDepth 100000 in
theorem c_X5_leadOfTurn (l : Launch) (dC : Nat → ClassId) (dI : Nat → Nat → Nat) (cyI cyJ : ClassId) (ax a0 a1 ae aw ao aq : Nat) (mk wn cnt lo lq : Int32) (k tn own oth : Nat) (hsd : zSd tn a0 a1 ao aq) (hO : zok k own) (hQ : zok k oth) : Met l yX5_leadOfTurn wsX5_leadOfTurn ({ frames := 2, cells := 0, slots := 0, locals := 45 }) (zPc [.ref ax] (dC, dI) vwCl [(cyI, .int), (cyJ, .long)] [(ax, .inr (2, [.ref a0, .ref a1, .ref ae, .ref aw, .int (nI k), .int (nI tn), .int mk, .int wn, .int cnt])), (ao, .inr (1, [.long (lN own), .int lo])), (aq, .inr (1, [.long (lN oth), .int lq]))] (fun _ => True)) (va_Qi (fun (r : Int32) (_ : Unit) => r = zLd own oth) (fun _ _ => True) zF) 0 0 zF := by
  refine Met.ofW (cc := cX5_leadOfTurn) (maxL := 1) (ret := (some .int)) (by decide) rfl ?_
  intro p e s m args below meth c s₁ B hml hv
  obtain ⟨rfl, hP, hK, hX⟩ := hv
  have hx := B.exec
  have hb := B.bytes
  have hr := B.returns
  have hts := atoms_spec (ws := wsX5_leadOfTurn) B.pre
  have hown : s.vm.findClass RX5 = some m.cls := findClass_of_methodNamed B.named
  have hlocks := B.notSynchronized
  have hinX3 : ∀ w ∈ wsX30, w ∈ wsX5_leadOfTurn := by decide +kernel
  have hinX5 : ∀ w ∈ wsX50, w ∈ wsX5_leadOfTurn := by decide +kernel
  have hl := lv_entry ([.ref ax]) (n := 1) (Nat.le_of_ble_eq_true rfl)
  rw [lg_entry_eq]
  generalize (lg_sl ([.ref ax]) ++ List.replicate (1 - (lg_sl ([.ref ax])).length) Slot.unset).toArray = ls at hl ⊢
  have hl : lv_has ls 1 [(0, .ref ax)] := hl
  have hS : va_S zF s.heap s.heap [] := va_S.rf
  have htn := zSd_le hsd
  have hl1 := hO.lt
  have hl2 := hQ.lt
  refine lv_aload_n hx hb dX5_leadOfTurn_0 rfl (lv_at hl 0 rfl) ?_
  refine lv_aload_n hx hb dX5_leadOfTurn_1 rfl (lv_at hl 0 rfl) ?_
  refine va_get (D := (dC, dI)) (ci := 2) (v := .int (nI tn)) (C := RX5) (T := TX5) (N := 9) hx hb hts hinX5 hown hK hP 0 rfl rfl 5 (by decide) (hts (.fieldLink RX5 59 "RoyalUrTable" "turn" "I") (List.mem_of_getElem? (i := 1) rfl)) (fun _ h9 => h9) rfl dX5_leadOfTurn_2 ?_
  refine zro_r (va_runV (As := [.int (nI tn)]) (rest := []) ⟨hx, hb, hml, hown, hts⟩ (c_X5_sideOf l dC dI cyI cyJ ax a0 a1 ae aw (nI k) (nI tn) mk wn cnt tn (by omega)) (cwV 1 hts gX5_leadOfTurn_X5_sideOf rfl rfl rfl (by decide +kernel) ⟨Nat.le_of_ble_eq_true rfl, Nat.le_of_ble_eq_true rfl⟩) (zPc_V (ci := 2) (q0 := 0) zB_T hP hK rfl rfl [0] rfl (fun _ _ _ => trivial)) rfl rfl hl.1 rfl (lv_room (Nat.le_of_ble_eq_true rfl)) dX5_leadOfTurn_5 ⟨Nat.zero_le _, Nat.zero_le _⟩) hP hS (fun H locs hP hS => ?_)
  refine zz_r (y := ao) (zSd_o hsd) ?_
  refine va_get (D := (dC, dI)) (ci := 1) (v := .long (lN own)) (C := RX3) (T := TX3) (N := 2) hx hb hts hinX3 hown hK hP 1 rfl rfl 0 (by decide) (hts (.fieldLink RX5 70 "RoyalUrTable$Side" "layout" "J") (List.mem_of_getElem? (i := 2) rfl)) (fun _ h9 => h9) rfl dX5_leadOfTurn_8 ?_
  refine zro_i (va_runS (As := [.long (lN own)]) (rest := []) ⟨hx, hb, hml, hown, hts⟩ (c_X2_sumOfPlaces l own (by omega)) (va_cwS 1 hts gX5_leadOfTurn_X2_sumOfPlaces rfl rfl rfl (by decide +kernel) ⟨Nat.le_of_ble_eq_true rfl, Nat.le_of_ble_eq_true rfl⟩) zPu rfl rfl hl.1 rfl (lv_room (Nat.le_of_ble_eq_true rfl)) dX5_leadOfTurn_11 ⟨Nat.zero_le _, Nat.zero_le _⟩) hP hS (fun H locs hP hS => ?_)
  refine lv_aload_n hx hb dX5_leadOfTurn_14 rfl (lv_at hl 0 rfl) ?_
  refine lv_iconst (v := 1) hx hb dX5_leadOfTurn_15 (by decide) ?_
  refine lv_aload_n hx hb dX5_leadOfTurn_16 rfl (lv_at hl 0 rfl) ?_
  refine va_get (D := (dC, dI)) (ci := 2) (v := .int (nI tn)) (C := RX5) (T := TX5) (N := 9) hx hb hts hinX5 hown hK hP 0 rfl rfl 5 (by decide) (hts (.fieldLink RX5 59 "RoyalUrTable" "turn" "I") (List.mem_of_getElem? (i := 1) rfl)) (fun _ h9 => h9) rfl dX5_leadOfTurn_17 ?_
  refine lv_isub hx hb dX5_leadOfTurn_20 ?_
  refine zz_i (y := nI (1 - tn)) (pk_sub (a := 1) (b := tn) (by omega)) ?_
  refine zro_r (va_runV (As := [.int (nI (1 - tn))]) (rest := [.int (nI (psum own 16))]) ⟨hx, hb, hml, hown, hts⟩ (c_X5_sideOf l dC dI cyI cyJ ax a0 a1 ae aw (nI k) (nI tn) mk wn cnt (1 - tn) (by omega)) (cwV 1 hts gX5_leadOfTurn_X5_sideOf rfl rfl rfl (by decide +kernel) ⟨Nat.le_of_ble_eq_true rfl, Nat.le_of_ble_eq_true rfl⟩) (zPc_V (ci := 2) (q0 := 0) zB_T hP hK rfl rfl [0] rfl (fun _ _ _ => trivial)) rfl rfl hl.1 rfl (lv_room (Nat.le_of_ble_eq_true rfl)) dX5_leadOfTurn_21 ⟨Nat.zero_le _, Nat.zero_le _⟩) hP hS (fun H locs hP hS => ?_)
  refine zz_r (y := aq) (zSd_q hsd) ?_
  refine va_get (D := (dC, dI)) (ci := 1) (v := .long (lN oth)) (C := RX3) (T := TX3) (N := 2) hx hb hts hinX3 hown hK hP 2 rfl rfl 0 (by decide) (hts (.fieldLink RX5 70 "RoyalUrTable$Side" "layout" "J") (List.mem_of_getElem? (i := 2) rfl)) (fun _ h9 => h9) rfl dX5_leadOfTurn_24 ?_
  refine zro_i (va_runS (As := [.long (lN oth)]) (rest := [.int (nI (psum own 16))]) ⟨hx, hb, hml, hown, hts⟩ (c_X2_sumOfPlaces l oth (by omega)) (va_cwS 1 hts gX5_leadOfTurn_X2_sumOfPlaces rfl rfl rfl (by decide +kernel) ⟨Nat.le_of_ble_eq_true rfl, Nat.le_of_ble_eq_true rfl⟩) zPu rfl rfl hl.1 rfl (lv_room (Nat.le_of_ble_eq_true rfl)) dX5_leadOfTurn_27 ⟨Nat.zero_le _, Nat.zero_le _⟩) hP hS (fun H locs hP hS => ?_)
  refine lv_isub hx hb dX5_leadOfTurn_30 ?_
  exact W.iret (v := (nI (psum own 16)) - (nI (psum oth 16))) hx hb hr (fun t ht hW => ⟨⟨_, (), rfl, rfl, trivial⟩, hS.F ht⟩) hS.2.2 dX5_leadOfTurn_31

set_option maxHeartbeats 4000000 in
set_option maxRecDepth 100000 in
theorem c_X5_countBetter (l : Launch) (dC : Nat → ClassId) (dI : Nat → Nat → Nat) (cyI cyJ : ClassId) (ax a0 a1 ae aw : Nat) (pI tI mk wn cnt : Int32) (wb : Nat → Int32) (pl : Nat) (hpl : pl ≤ 15) (w9 : Int32) : Met l yX5_countBetter wsX5_countBetter ({ frames := 0, cells := 0, slots := 0, locals := 0 }) (zPc [.ref ax, .int (nI pl), .int w9] (dC, dI) vwCl [(cyI, .int), (cyJ, .long)] [(ax, .inr (2, [.ref a0, .ref a1, .ref ae, .ref aw, .int pI, .int tI, .int mk, .int wn, .int cnt])), (aw, .inl (cyI, 15, .inl wb))] (fun _ => True)) (va_Qi (fun (r : Int32) (_ : Unit) => r = nI (zCB wb pl w9 15)) (fun _ _ => True) zF) 0 0 zF := by
  refine Met.ofW (cc := cX5_countBetter) (maxL := 5) (ret := (some .int)) (by decide) rfl ?_
  intro p e s m args below meth c s₁ B hml hv
  obtain ⟨rfl, hP, hK, hX⟩ := hv
  have hx := B.exec
  have hb := B.bytes
  have hr := B.returns
  have hts := atoms_spec (ws := wsX5_countBetter) B.pre
  have hown : s.vm.findClass RX5 = some m.cls := findClass_of_methodNamed B.named
  have hlocks := B.notSynchronized
  have hinX5 : ∀ w ∈ wsX50, w ∈ wsX5_countBetter := by decide +kernel
  have hl := lv_entry ([.ref ax, .int (nI pl), .int w9]) (n := 5) (Nat.le_of_ble_eq_true rfl)
  rw [lg_entry_eq]
  generalize (lg_sl ([.ref ax, .int (nI pl), .int w9]) ++ List.replicate (5 - (lg_sl ([.ref ax, .int (nI pl), .int w9])).length) Slot.unset).toArray = ls at hl ⊢
  have hl : lv_has ls 5 [(0, .ref ax), (1, .int (nI pl)), (2, .int w9)] := hl
  have hS : va_S zF s.heap s.heap [] := va_S.rf
  generalize hQe : MQ below _ _ _ _ _ _ = Q
  refine lv_iconst (v := 0) hx hb dX5_countBetter_0 (by decide) ?_
  refine lv_istore_n (lv' := [(3, .int 0), (0, .ref ax), (1, .int (nI pl)), (2, .int w9)]) hx hb dX5_countBetter_1 rfl hl (by decide) rfl (fun ls hl => ?_)
  refine lv_iconst (v := 0) hx hb dX5_countBetter_2 (by decide) ?_
  refine lv_istore (lv' := [(4, .int 0), (3, .int 0), (0, .ref ax), (1, .int (nI pl)), (2, .int w9)]) hx hb dX5_countBetter_3 hl (by decide) rfl (fun ls hl => ?_)
  have lp : ∀ (n9 : Nat) (i : Nat) (cv : Nat), i ≤ 15 → cv = zCB wb pl w9 i → 15 - i < n9 → ∀ (H : Heap) (locs : List Loc), va_P (dC, dI) vwCl [(ax, .inr (2, [.ref a0, .ref a1, .ref ae, .ref aw, .int pI, .int tI, .int mk, .int wn, .int cnt])), (aw, .inl (cyI, 15, .inl wb))] H → va_S zF s.heap H locs → ∀ ls : Array Slot, lv_has ls 5 [(4, .int (nI i)), (3, .int (nI cv)), (0, .ref ax), (1, .int (nI pl)), (2, .int w9)] → W p l e (headSpec wsX5_countBetter ({ frames := 0, cells := 0, slots := 0, locals := 0 })).room s m ([.ref ax, .int (nI pl), .int w9] : List Value).toArray below meth c H locs 0 0 Q (F0 m 5 ls []) := by
    intro n9
    induction n9 with
    | zero => intro i cv hi2 hcv hm9; exact absurd hm9 (Nat.not_lt_zero _)
    | succ n9 ih5 =>
      intro i cv hi2 hcv hm9 H locs hP hS ls hl
      refine lv_iload hx hb dX5_countBetter_5 (lv_at hl 0 rfl) ?_
      refine lv_aload_n hx hb dX5_countBetter_7 rfl (lv_at hl 2 rfl) ?_
      refine va_get (D := (dC, dI)) (ci := 2) (v := .ref aw) (C := RX5) (T := TX5) (N := 9) hx hb hts hinX5 hown hK hP 0 rfl rfl 3 (by decide) (hts (.fieldLink RX5 28 "RoyalUrTable" "worthsBehind" "[I") (List.mem_of_getElem? (i := 1) rfl)) (fun _ h9 => h9) rfl dX5_countBetter_8 ?_
      refine va_alen (v := 15) hx hb hK hP 1 0 rfl rfl rfl dX5_countBetter_11 ?_
      refine lv_icmp_ge (tgt := 52) hx hb dX5_countBetter_12 (by decide) (fun c_12 => ?_) (fun c_12 => ?_)
      · skip
        have c_12 : 15 ≤ i := (nI_leI (a := 15) (b := i) (by omega) (by omega)).mp c_12
        refine lv_iload_n hx hb dX5_countBetter_52 rfl (lv_at hl 1 rfl) ?_
        subst hQe
        exact W.iret (v := nI cv) hx hb hr (fun t ht hW => ⟨⟨_, (), rfl, (by rw [hcv, show i = 15 by omega]), trivial⟩, hS.F ht⟩) hS.2.2 dX5_countBetter_53
      · skip
        have c_12 : ¬ 15 ≤ i := fun h9 => c_12 ((nI_leI (a := 15) (b := i) (by omega) (by omega)).mpr h9)
        refine lv_aload_n hx hb dX5_countBetter_15 rfl (lv_at hl 2 rfl) ?_
        refine va_get (D := (dC, dI)) (ci := 2) (v := .ref aw) (C := RX5) (T := TX5) (N := 9) hx hb hts hinX5 hown hK hP 0 rfl rfl 3 (by decide) (hts (.fieldLink RX5 28 "RoyalUrTable" "worthsBehind" "[I") (List.mem_of_getElem? (i := 1) rfl)) (fun _ h9 => h9) rfl dX5_countBetter_16 ?_
        refine lv_iload hx hb dX5_countBetter_19 (lv_at hl 0 rfl) ?_
        refine zi_iald hx hb hK hP 1 0 rfl rfl (j := i) rfl (by omega) (by decide) dX5_countBetter_21 ?_
        refine lv_iload_n hx hb dX5_countBetter_22 rfl (lv_at hl 4 rfl) ?_
        refine lv_icmp_gt (tgt := 43) hx hb dX5_countBetter_23 (by decide) (fun c_23 => ?_) (fun c_23 => ?_)
        · skip
          refine lv_iinc (v := nI (cv + 1)) (lv' := [(3, .int (nI (cv + 1))), (4, .int (nI i)), (0, .ref ax), (1, .int (nI pl)), (2, .int w9)]) hx hb dX5_countBetter_43 hl (k := 1) rfl (nI_1 cv) (by decide) rfl (fun ls hl => ?_)
          refine lv_iinc (v := nI (i + 1)) (lv' := [(4, .int (nI (i + 1))), (3, .int (nI (cv + 1))), (0, .ref ax), (1, .int (nI pl)), (2, .int w9)]) hx hb dX5_countBetter_46 hl (k := 1) rfl (nI_1 i) (by decide) rfl (fun ls hl => ?_)
          refine lv_goto (tgt := 5) hx hb dX5_countBetter_49 (by decide) ?_
          exact ih5 (i + 1) _ (by omega) (by rw [zCB_s, if_pos (Or.inl c_23), hcv]) (by omega) _ _ hP hS _ (lv_sub hl [0, 1, 2, 3, 4] rfl)
        · skip
          refine lv_aload_n hx hb dX5_countBetter_26 rfl (lv_at hl 2 rfl) ?_
          refine va_get (D := (dC, dI)) (ci := 2) (v := .ref aw) (C := RX5) (T := TX5) (N := 9) hx hb hts hinX5 hown hK hP 0 rfl rfl 3 (by decide) (hts (.fieldLink RX5 28 "RoyalUrTable" "worthsBehind" "[I") (List.mem_of_getElem? (i := 1) rfl)) (fun _ h9 => h9) rfl dX5_countBetter_27 ?_
          refine lv_iload hx hb dX5_countBetter_30 (lv_at hl 0 rfl) ?_
          refine zi_iald hx hb hK hP 1 0 rfl rfl (j := i) rfl (by omega) (by decide) dX5_countBetter_32 ?_
          refine lv_iload_n hx hb dX5_countBetter_33 rfl (lv_at hl 4 rfl) ?_
          refine lv_icmp_ne (tgt := 46) hx hb dX5_countBetter_34 (by decide) (fun c_34 => ?_) (fun c_34 => ?_)
          · skip
            refine lv_iinc (v := nI (i + 1)) (lv' := [(4, .int (nI (i + 1))), (3, .int (nI cv)), (0, .ref ax), (1, .int (nI pl)), (2, .int w9)]) hx hb dX5_countBetter_46 hl (k := 0) rfl (nI_1 i) (by decide) rfl (fun ls hl => ?_)
            refine lv_goto (tgt := 5) hx hb dX5_countBetter_49 (by decide) ?_
            exact ih5 (i + 1) _ (by omega) (by rw [zCB_s, if_neg (fun h => by rcases h with h | h; exact c_23 h; exact c_34 h.1), Nat.add_zero]; exact hcv) (by omega) _ _ hP hS _ (lv_sub hl [0, 1, 2, 3, 4] rfl)
          · skip
            refine lv_iload hx hb dX5_countBetter_37 (lv_at hl 0 rfl) ?_
            refine lv_iload_n hx hb dX5_countBetter_39 rfl (lv_at hl 3 rfl) ?_
            refine lv_icmp_ge (tgt := 46) hx hb dX5_countBetter_40 (by decide) (fun c_40 => ?_) (fun c_40 => ?_)
            · skip
              have c_40 : pl ≤ i := (nI_leI (a := pl) (b := i) (by omega) (by omega)).mp c_40
              refine lv_iinc (v := nI (i + 1)) (lv' := [(4, .int (nI (i + 1))), (3, .int (nI cv)), (0, .ref ax), (1, .int (nI pl)), (2, .int w9)]) hx hb dX5_countBetter_46 hl (k := 0) rfl (nI_1 i) (by decide) rfl (fun ls hl => ?_)
              refine lv_goto (tgt := 5) hx hb dX5_countBetter_49 (by decide) ?_
              exact ih5 (i + 1) _ (by omega) (by rw [zCB_s, if_neg (fun h => by rcases h with h | h; exact c_23 h; exact absurd h.2 (by omega)), Nat.add_zero]; exact hcv) (by omega) _ _ hP hS _ (lv_sub hl [0, 1, 2, 3, 4] rfl)
            · skip
              have c_40 : ¬ pl ≤ i := fun h9 => c_40 ((nI_leI (a := pl) (b := i) (by omega) (by omega)).mpr h9)
              refine lv_iinc (v := nI (cv + 1)) (lv' := [(3, .int (nI (cv + 1))), (4, .int (nI i)), (0, .ref ax), (1, .int (nI pl)), (2, .int w9)]) hx hb dX5_countBetter_43 hl (k := 1) rfl (nI_1 cv) (by decide) rfl (fun ls hl => ?_)
              refine lv_iinc (v := nI (i + 1)) (lv' := [(4, .int (nI (i + 1))), (3, .int (nI (cv + 1))), (0, .ref ax), (1, .int (nI pl)), (2, .int w9)]) hx hb dX5_countBetter_46 hl (k := 1) rfl (nI_1 i) (by decide) rfl (fun ls hl => ?_)
              refine lv_goto (tgt := 5) hx hb dX5_countBetter_49 (by decide) ?_
              exact ih5 (i + 1) _ (by omega) (by rw [zCB_s, if_pos (Or.inr ⟨c_34, by omega⟩), hcv]) (by omega) _ _ hP hS _ (lv_sub hl [0, 1, 2, 3, 4] rfl)
  exact lp 16 0 0 (by omega) rfl (by omega) _ _ hP hS _ (lv_sub hl [0, 1, 2, 3, 4] rfl)

set_option maxHeartbeats 4000000 in
set_option maxRecDepth 100000 in
theorem c_X5_worthForTurn (l : Launch) (dC : Nat → ClassId) (dI : Nat → Nat → Nat) (cyI cyJ : ClassId) (tb ax a0 a1 ae aw at_ ao aq : Nat) (mk wn cnt lo lq : Int32) (wf : Nat → Int32) (k kk tn own oth mm d : Nat) (hsd : zSd tn a0 a1 ao aq) (hO : zok k own) (hQ : zok k oth) (hk1 : 1 ≤ k) (hkk : kk ≤ 60) (htb : zTb kk wf) (hmk : zmk mk mm) (hmm : mm ≤ 4) (hd : d ≤ 3) (hnd : [ax, ao, aq, ae, at_].Nodup) : Met l yX5_worthForTurn wsX5_worthForTurn ({ frames := 20, cells := 0, slots := 0, locals := 600 }) (zPc [.ref ax, .int (nI d)] (dC, dI) vwCl [(cyI, .int), (cyJ, .long)] [(ax, .inr (2, [.ref a0, .ref a1, .ref ae, .ref aw, .int (nI k), .int (nI tn), .int mk, .int wn, .int cnt])), (ao, .inr (1, [.long (lN own), .int lo])), (aq, .inr (1, [.long (lN oth), .int lq])), (ae, .inr (0, [.ref at_, .int (nI kk)])), (at_, .inl (cyI, 13500, .inl wf))] (fun U => zX tb (zA [ax, ao, aq, ae, at_]) U U.heap)) (va_Qi (fun (r : Int32) u => r = zWT k tn wn mk mm d own oth ∧ zTb u.1 u.2 ∧ u.1 ≤ 60) (fun (u : Nat × (Nat → Int32)) t => va_P (dC, dI) vwCl ([(ax, .inr (2, [.ref a0, .ref a1, .ref ae, .ref aw, .int (nI k), .int (nI tn), .int mk, .int wn, .int cnt])), (ao, .inr (1, [.long (lN own), .int lo])), (aq, .inr (1, [.long (lN oth), .int lq])), (ae, .inr (0, [.ref at_, .int (nI u.1)])), (at_, .inl (cyI, 13500, .inl u.2))]) t.heap) (zA [ax, ao, aq, ae, at_])) 0 0 (zA [ax, ao, aq, ae, at_]) := by
  refine Met.ofW (cc := cX5_worthForTurn) (maxL := 6) (ret := (some .int)) (by decide) rfl ?_
  intro p e s m args below meth c s₁ B hml hv
  obtain ⟨rfl, hP, hK, hX⟩ := hv
  have hx := B.exec
  have hb := B.bytes
  have hr := B.returns
  have hts := atoms_spec (ws := wsX5_worthForTurn) B.pre
  have hown : s.vm.findClass RX5 = some m.cls := findClass_of_methodNamed B.named
  have hlocks := B.notSynchronized
  have hinX3 : ∀ w ∈ wsX30, w ∈ wsX5_worthForTurn := by decide +kernel
  have hinX5 : ∀ w ∈ wsX50, w ∈ wsX5_worthForTurn := by decide +kernel
  have hl := lv_entry ([.ref ax, .int (nI d)]) (n := 6) (Nat.le_of_ble_eq_true rfl)
  rw [lg_entry_eq]
  generalize (lg_sl ([.ref ax, .int (nI d)]) ++ List.replicate (6 - (lg_sl ([.ref ax, .int (nI d)])).length) Slot.unset).toArray = ls at hl ⊢
  have hl : lv_has ls 6 [(0, .ref ax), (1, .int (nI d))] := hl
  have hS : va_S (zA [ax, ao, aq, ae, at_]) s.heap s.heap [] := va_S.rf
  have hDD : zD (zA [ax, ao, aq, ae, at_]) [ax, ao, aq, ae, at_] := ⟨hnd, fun _ h => h⟩
  have htn := zSd_le hsd
  refine lv_aload_n hx hb dX5_worthForTurn_0 rfl (lv_at hl 0 rfl) ?_
  refine va_get (D := (dC, dI)) (ci := 2) (v := .int wn) (C := RX5) (T := TX5) (N := 9) hx hb hts hinX5 hown hK hP 0 rfl rfl 7 (by decide) (hts (.fieldLink RX5 42 "RoyalUrTable" "winner" "I") (List.mem_of_getElem? (i := 1) rfl)) (fun _ h9 => h9) rfl dX5_worthForTurn_1 ?_
  refine lv_iconst (v := -1) hx hb dX5_worthForTurn_4 (by decide) ?_
  refine lv_icmp_eq (tgt := 26) hx hb dX5_worthForTurn_5 (by decide) (fun c_5 => ?_) (fun c_5 => ?_)
  · skip
    refine lv_aload_n hx hb dX5_worthForTurn_26 rfl (lv_at hl 0 rfl) ?_
    refine va_get (D := (dC, dI)) (ci := 2) (v := .ref ae) (C := RX5) (T := TX5) (N := 9) hx hb hts hinX5 hown hK hP 0 rfl rfl 2 (by decide) (hts (.fieldLink RX5 22 "RoyalUrTable" "endings" "LRoyalUrTable$Endings;") (List.mem_of_getElem? (i := 4) rfl)) (fun _ h9 => h9) rfl dX5_worthForTurn_27 ?_
    refine lv_bipush (v := 40) hx hb dX5_worthForTurn_30 (by decide) ?_
    refine zrw_v (w1 := fun u : Nat × (Nat → Int32) => [(ae, .inr (0, [.ref at_, .int (nI u.1)])), (at_, .inl (cyI, 13500, .inl u.2))]) (al := [ae, at_]) (va_runV (As := [.int 40]) (rest := []) ⟨hx, hb, hml, hown, hts⟩ (c_X1_fillUpTo l dC dI cyI cyJ tb ae at_ wf kk 40 hkk (by omega) htb (z_nd hDD.1 [3, 4] (by decide) rfl)) (cwV 1 hts gX5_worthForTurn_X1_fillUpTo rfl rfl rfl (by decide +kernel) ⟨(show 5 + 1 ≤ 20 by omega), (show 8 + (4 + 11) + 129 ≤ 600 by omega)⟩) (zPc_V (ci := 0) (q0 := 3) zB_X hP hK rfl rfl [3, 4] rfl (zX_at hX hS (zA_pl (al := [ax, ao, aq, ae, at_]) (bl := [ae, at_]) [3, 4] rfl))) rfl rfl hl.1 rfl (lv_room (Nat.le_of_ble_eq_true rfl)) dX5_worthForTurn_32 ⟨Nat.zero_le _, Nat.zero_le _⟩) hP hDD hS [3, 4] rfl (fun _ => rfl) (fun u_32 H locs hw_32 hP hS => ?_)
    have hP : va_P (dC, dI) vwCl [(ax, .inr (2, [.ref a0, .ref a1, .ref ae, .ref aw, .int (nI k), .int (nI tn), .int mk, .int wn, .int cnt])), (ao, .inr (1, [.long (lN own), .int lo])), (aq, .inr (1, [.long (lN oth), .int lq])), (ae, .inr (0, [.ref at_, .int (nI u_32.1)])), (at_, .inl (cyI, 13500, .inl u_32.2))] H := hP
    refine lv_aload_n hx hb dX5_worthForTurn_35 rfl (lv_at hl 0 rfl) ?_
    refine lv_aload_n hx hb dX5_worthForTurn_36 rfl (lv_at hl 0 rfl) ?_
    refine va_get (D := (dC, dI)) (ci := 2) (v := .int (nI tn)) (C := RX5) (T := TX5) (N := 9) hx hb hts hinX5 hown hK hP 0 rfl rfl 5 (by decide) (hts (.fieldLink RX5 59 "RoyalUrTable" "turn" "I") (List.mem_of_getElem? (i := 2) rfl)) (fun _ h9 => h9) rfl dX5_worthForTurn_37 ?_
    refine zro_r (va_runV (As := [.int (nI tn)]) (rest := []) ⟨hx, hb, hml, hown, hts⟩ (c_X5_sideOf l dC dI cyI cyJ ax a0 a1 ae aw (nI k) (nI tn) mk wn cnt tn (by omega)) (cwV 1 hts gX5_worthForTurn_X5_sideOf rfl rfl rfl (by decide +kernel) ⟨(show 0 + 1 ≤ 20 by omega), (show 8 + (2 + 11) + 0 ≤ 600 by omega)⟩) (zPc_V (ci := 2) (q0 := 0) zB_T hP hK rfl rfl [0] rfl (fun _ _ _ => trivial)) rfl rfl hl.1 rfl (lv_room (Nat.le_of_ble_eq_true rfl)) dX5_worthForTurn_40 ⟨Nat.zero_le _, Nat.zero_le _⟩) hP hS (fun H locs hP hS => ?_)
    refine zz_r (y := ao) (zSd_o hsd) ?_
    refine va_get (D := (dC, dI)) (ci := 1) (v := .long (lN own)) (C := RX3) (T := TX3) (N := 2) hx hb hts hinX3 hown hK hP 1 rfl rfl 0 (by decide) (hts (.fieldLink RX5 70 "RoyalUrTable$Side" "layout" "J") (List.mem_of_getElem? (i := 5) rfl)) (fun _ h9 => h9) rfl dX5_worthForTurn_43 ?_
    refine lv_lstore_n (lv' := [(2, .long (lN own)), (0, .ref ax), (1, .int (nI d))]) hx hb dX5_worthForTurn_46 rfl hl (by decide) rfl (fun ls hl => ?_)
    refine lv_aload_n hx hb dX5_worthForTurn_47 rfl (lv_at hl 1 rfl) ?_
    refine lv_iconst (v := 1) hx hb dX5_worthForTurn_48 (by decide) ?_
    refine lv_aload_n hx hb dX5_worthForTurn_49 rfl (lv_at hl 1 rfl) ?_
    refine va_get (D := (dC, dI)) (ci := 2) (v := .int (nI tn)) (C := RX5) (T := TX5) (N := 9) hx hb hts hinX5 hown hK hP 0 rfl rfl 5 (by decide) (hts (.fieldLink RX5 59 "RoyalUrTable" "turn" "I") (List.mem_of_getElem? (i := 2) rfl)) (fun _ h9 => h9) rfl dX5_worthForTurn_50 ?_
    refine lv_isub hx hb dX5_worthForTurn_53 ?_
    refine zz_i (y := nI (1 - tn)) (pk_sub (a := 1) (b := tn) (by omega)) ?_
    refine zro_r (va_runV (As := [.int (nI (1 - tn))]) (rest := []) ⟨hx, hb, hml, hown, hts⟩ (c_X5_sideOf l dC dI cyI cyJ ax a0 a1 ae aw (nI k) (nI tn) mk wn cnt (1 - tn) (by omega)) (cwV 1 hts gX5_worthForTurn_X5_sideOf rfl rfl rfl (by decide +kernel) ⟨(show 0 + 1 ≤ 20 by omega), (show 8 + (2 + 11) + 0 ≤ 600 by omega)⟩) (zPc_V (ci := 2) (q0 := 0) zB_T hP hK rfl rfl [0] rfl (fun _ _ _ => trivial)) rfl rfl hl.1 rfl (lv_room (Nat.le_of_ble_eq_true rfl)) dX5_worthForTurn_54 ⟨Nat.zero_le _, Nat.zero_le _⟩) hP hS (fun H locs hP hS => ?_)
    refine zz_r (y := aq) (zSd_q hsd) ?_
    refine va_get (D := (dC, dI)) (ci := 1) (v := .long (lN oth)) (C := RX3) (T := TX3) (N := 2) hx hb hts hinX3 hown hK hP 2 rfl rfl 0 (by decide) (hts (.fieldLink RX5 70 "RoyalUrTable$Side" "layout" "J") (List.mem_of_getElem? (i := 5) rfl)) (fun _ h9 => h9) rfl dX5_worthForTurn_57 ?_
    refine lv_lstore (lv' := [(4, .long (lN oth)), (2, .long (lN own)), (0, .ref ax), (1, .int (nI d))]) hx hb dX5_worthForTurn_60 hl (by decide) rfl (fun ls hl => ?_)
    refine lv_aload_n hx hb dX5_worthForTurn_62 rfl (lv_at hl 2 rfl) ?_
    refine va_get (D := (dC, dI)) (ci := 2) (v := .int mk) (C := RX5) (T := TX5) (N := 9) hx hb hts hinX5 hown hK hP 0 rfl rfl 6 (by decide) (hts (.fieldLink RX5 46 "RoyalUrTable" "marksTold" "I") (List.mem_of_getElem? (i := 6) rfl)) (fun _ h9 => h9) rfl dX5_worthForTurn_63 ?_
    refine lv_iconst (v := -1) hx hb dX5_worthForTurn_66 (by decide) ?_
    refine lv_icmp_ne (tgt := 83) hx hb dX5_worthForTurn_67 (by decide) (fun c_67 => ?_) (fun c_67 => ?_)
    · skip
      refine lv_aload_n hx hb dX5_worthForTurn_83 rfl (lv_at hl 2 rfl) ?_
      refine lv_lload_n hx hb dX5_worthForTurn_84 rfl (lv_at hl 1 rfl) ?_
      refine lv_lload hx hb dX5_worthForTurn_85 (lv_at hl 0 rfl) ?_
      refine lv_aload_n hx hb dX5_worthForTurn_87 rfl (lv_at hl 2 rfl) ?_
      refine zro_i (va_runV (As := []) (rest := [.long (lN oth), .long (lN own), .ref ax]) ⟨hx, hb, hml, hown, hts⟩ (c_X5_leadOfTurn l dC dI cyI cyJ ax a0 a1 ae aw ao aq mk wn cnt lo lq k tn own oth hsd hO hQ) (cwV 0 hts gX5_worthForTurn_X5_leadOfTurn rfl rfl rfl (by decide +kernel) ⟨(show 2 + 1 ≤ 20 by omega), (show 8 + (1 + 11) + 45 ≤ 600 by omega)⟩) (zPc_V (ci := 2) (q0 := 0) zB_T hP hK rfl rfl [0, 1, 2] rfl (fun _ _ _ => trivial)) rfl rfl hl.1 rfl (lv_room (Nat.le_of_ble_eq_true rfl)) dX5_worthForTurn_88 ⟨Nat.zero_le _, Nat.zero_le _⟩) hP hS (fun H locs hP hS => ?_)
      refine lv_aload_n hx hb dX5_worthForTurn_91 rfl (lv_at hl 2 rfl) ?_
      refine va_get (D := (dC, dI)) (ci := 2) (v := .int mk) (C := RX5) (T := TX5) (N := 9) hx hb hts hinX5 hown hK hP 0 rfl rfl 6 (by decide) (hts (.fieldLink RX5 46 "RoyalUrTable" "marksTold" "I") (List.mem_of_getElem? (i := 6) rfl)) (fun _ h9 => h9) rfl dX5_worthForTurn_92 ?_
      refine zz_i (y := nI mm) (zmk_ne hmk c_67) ?_
      refine lv_iload_n hx hb dX5_worthForTurn_95 rfl (lv_at hl 3 rfl) ?_
      refine zro_i (va_runV (As := [.long (lN own), .long (lN oth), .int (zLd own oth), .int (nI mm), .int (nI d)]) (rest := []) ⟨hx, hb, hml, hown, hts⟩ (c_X5_worthBehindThrow l dC dI cyI cyJ tb ax a0 a1 ae aw at_ (nI tn) mk wn cnt (nI u_32.1) u_32.2 k u_32.1 hk1 hw_32.2.2 hw_32.2.1 hw_32.1 d (by omega) own oth mm hO hQ (by omega)) (cwV 5 hts gX5_worthForTurn_X5_worthBehindThrow rfl rfl rfl (by decide +kernel) ⟨(show (3 * d + 8) + 1 ≤ 20 by omega), (show 8 + (10 + 11) + (92 * d + 263) ≤ 600 by omega)⟩) (zPc_V (ci := 2) (q0 := 0) zB_X hP hK rfl rfl [0, 3, 4] rfl (zX_at hX hS zF_A)) rfl rfl hl.1 rfl (lv_room (Nat.le_of_ble_eq_true rfl)) dX5_worthForTurn_96 ⟨Nat.zero_le _, Nat.zero_le _⟩) hP hS (fun H locs hP hS => ?_)
      exact W.iret (v := nI (zBT (zV k d) own oth mm)) hx hb hr (fun t ht hW => ⟨⟨_, u_32, rfl, ⟨(by rw [zWT, if_pos c_5, if_neg c_67]), hw_32.1, hw_32.2.2⟩, zh ht hP⟩, hS.F ht⟩) hS.2.2 dX5_worthForTurn_99
    · skip
      refine lv_aload_n hx hb dX5_worthForTurn_70 rfl (lv_at hl 2 rfl) ?_
      refine lv_lload_n hx hb dX5_worthForTurn_71 rfl (lv_at hl 1 rfl) ?_
      refine lv_lload hx hb dX5_worthForTurn_72 (lv_at hl 0 rfl) ?_
      refine lv_aload_n hx hb dX5_worthForTurn_74 rfl (lv_at hl 2 rfl) ?_
      refine zro_i (va_runV (As := []) (rest := [.long (lN oth), .long (lN own), .ref ax]) ⟨hx, hb, hml, hown, hts⟩ (c_X5_leadOfTurn l dC dI cyI cyJ ax a0 a1 ae aw ao aq mk wn cnt lo lq k tn own oth hsd hO hQ) (cwV 0 hts gX5_worthForTurn_X5_leadOfTurn rfl rfl rfl (by decide +kernel) ⟨(show 2 + 1 ≤ 20 by omega), (show 8 + (1 + 11) + 45 ≤ 600 by omega)⟩) (zPc_V (ci := 2) (q0 := 0) zB_T hP hK rfl rfl [0, 1, 2] rfl (fun _ _ _ => trivial)) rfl rfl hl.1 rfl (lv_room (Nat.le_of_ble_eq_true rfl)) dX5_worthForTurn_75 ⟨Nat.zero_le _, Nat.zero_le _⟩) hP hS (fun H locs hP hS => ?_)
      refine lv_iload_n hx hb dX5_worthForTurn_78 rfl (lv_at hl 3 rfl) ?_
      refine zro_i (va_runV (As := [.long (lN own), .long (lN oth), .int (zLd own oth), .int (nI d)]) (rest := []) ⟨hx, hb, hml, hown, hts⟩ (c_X5_worthToThrow l dC dI cyI cyJ tb ax a0 a1 ae aw at_ (nI tn) mk wn cnt (nI u_32.1) u_32.2 k u_32.1 hk1 hw_32.2.2 hw_32.2.1 hw_32.1 d (by omega) own oth hO hQ) (cwV 4 hts gX5_worthForTurn_X5_worthToThrow rfl rfl rfl (by decide +kernel) ⟨(show (3 * d + 6) + 1 ≤ 20 by omega), (show 8 + (10 + 11) + (92 * d + 200) ≤ 600 by omega)⟩) (zPc_V (ci := 2) (q0 := 0) zB_X hP hK rfl rfl [0, 3, 4] rfl (zX_at hX hS zF_A)) rfl rfl hl.1 rfl (lv_room (Nat.le_of_ble_eq_true rfl)) dX5_worthForTurn_79 ⟨Nat.zero_le _, Nat.zero_le _⟩) hP hS (fun H locs hP hS => ?_)
      exact W.iret (v := nI (zV k d own oth)) hx hb hr (fun t ht hW => ⟨⟨_, u_32, rfl, ⟨(by rw [zWT, if_pos c_5, if_pos c_67]), hw_32.1, hw_32.2.2⟩, zh ht hP⟩, hS.F ht⟩) hS.2.2 dX5_worthForTurn_82
  · skip
    refine lv_aload_n hx hb dX5_worthForTurn_8 rfl (lv_at hl 0 rfl) ?_
    refine va_get (D := (dC, dI)) (ci := 2) (v := .int wn) (C := RX5) (T := TX5) (N := 9) hx hb hts hinX5 hown hK hP 0 rfl rfl 7 (by decide) (hts (.fieldLink RX5 42 "RoyalUrTable" "winner" "I") (List.mem_of_getElem? (i := 1) rfl)) (fun _ h9 => h9) rfl dX5_worthForTurn_9 ?_
    refine lv_aload_n hx hb dX5_worthForTurn_12 rfl (lv_at hl 0 rfl) ?_
    refine va_get (D := (dC, dI)) (ci := 2) (v := .int (nI tn)) (C := RX5) (T := TX5) (N := 9) hx hb hts hinX5 hown hK hP 0 rfl rfl 5 (by decide) (hts (.fieldLink RX5 59 "RoyalUrTable" "turn" "I") (List.mem_of_getElem? (i := 2) rfl)) (fun _ h9 => h9) rfl dX5_worthForTurn_13 ?_
    refine lv_icmp_ne (tgt := 24) hx hb dX5_worthForTurn_16 (by decide) (fun c_16 => ?_) (fun c_16 => ?_)
    · skip
      refine lv_iconst (v := 0) hx hb dX5_worthForTurn_24 (by decide) ?_
      exact W.iret (v := 0) hx hb hr (fun t ht hW => ⟨⟨_, (kk, wf), rfl, ⟨(by rw [zWT, if_neg c_5, if_neg c_16]), htb, hkk⟩, zh ht hP⟩, hS.F ht⟩) hS.2.2 dX5_worthForTurn_25
    · skip
      refine lv_ldc (v := 1000000000) hx hb hown (hts (.constant RX5 105 (1000000000)) (List.mem_of_getElem? (i := 3) rfl)) dX5_worthForTurn_19 ?_
      refine lv_goto (tgt := 25) hx hb dX5_worthForTurn_21 (by decide) ?_
      exact W.iret (v := 1000000000) hx hb hr (fun t ht hW => ⟨⟨_, (kk, wf), rfl, ⟨(by rw [zWT, if_neg c_5, if_pos c_16]), htb, hkk⟩, zh ht hP⟩, hS.F ht⟩) hS.2.2 dX5_worthForTurn_25

set_option maxHeartbeats 4000000 in
set_option maxRecDepth 100000 in
theorem c_X5_noteWorthsBehind (l : Launch) (dC : Nat → ClassId) (dI : Nat → Nat → Nat) (cyI cyJ : ClassId) (tb ax a0 a1 ae aw at_ ao aq : Nat) (mk wn cnt lo lq : Int32) (wf wb : Nat → Int32) (k kk tn own oth mm d : Nat) (hsd : zSd tn a0 a1 ao aq) (hO : zok k own) (hQ : zok k oth) (hk1 : 1 ≤ k) (hkk : kk ≤ 60) (htb : zTb kk wf) (hmk : zmk mk mm) (hmm : mm ≤ 4) (hd : d ≤ 3) (hnd : [ax, ao, aq, ae, at_, aw].Nodup) : Met l yX5_noteWorthsBehind wsX5_noteWorthsBehind ({ frames := 20, cells := 0, slots := 0, locals := 600 }) (zPc [.ref ax, .int (nI d)] (dC, dI) vwCl [(cyI, .int), (cyJ, .long)] [(ax, .inr (2, [.ref a0, .ref a1, .ref ae, .ref aw, .int (nI k), .int (nI tn), .int mk, .int wn, .int cnt])), (ao, .inr (1, [.long (lN own), .int lo])), (aq, .inr (1, [.long (lN oth), .int lq])), (ae, .inr (0, [.ref at_, .int (nI kk)])), (at_, .inl (cyI, 13500, .inl wf)), (aw, .inl (cyI, 15, .inl wb))] (fun U => zX tb (zA [ax, ao, aq, ae, at_, aw]) U U.heap)) (va_Qv (fun u => zTb u.1 u.2.1 ∧ u.1 ≤ 60 ∧ ∀ j, j < 15 → u.2.2 j = zWB k d own oth mm j) (fun (u : Nat × (Nat → Int32) × (Nat → Int32)) t => va_P (dC, dI) vwCl ([(ax, .inr (2, [.ref a0, .ref a1, .ref ae, .ref aw, .int (nI k), .int (nI tn), .int mk, .int wn, .int cnt])), (ao, .inr (1, [.long (lN own), .int lo])), (aq, .inr (1, [.long (lN oth), .int lq])), (ae, .inr (0, [.ref at_, .int (nI u.1)])), (at_, .inl (cyI, 13500, .inl u.2.1)), (aw, .inl (cyI, 15, .inl u.2.2))]) t.heap) (zA [ax, ao, aq, ae, at_, aw])) 0 0 (zA [ax, ao, aq, ae, at_, aw]) := by
  refine Met.ofW (cc := cX5_noteWorthsBehind) (maxL := 8) (ret := none) (by decide) rfl ?_
  intro p e s m args below meth c s₁ B hml hv
  obtain ⟨rfl, hP, hK, hX⟩ := hv
  have hx := B.exec
  have hb := B.bytes
  have hr := B.returns
  have hts := atoms_spec (ws := wsX5_noteWorthsBehind) B.pre
  have hown : s.vm.findClass RX5 = some m.cls := findClass_of_methodNamed B.named
  have hlocks := B.notSynchronized
  have hinX3 : ∀ w ∈ wsX30, w ∈ wsX5_noteWorthsBehind := by decide +kernel
  have hinX5 : ∀ w ∈ wsX50, w ∈ wsX5_noteWorthsBehind := by decide +kernel
  have hl := lv_entry ([.ref ax, .int (nI d)]) (n := 8) (Nat.le_of_ble_eq_true rfl)
  rw [lg_entry_eq]
  generalize (lg_sl ([.ref ax, .int (nI d)]) ++ List.replicate (8 - (lg_sl ([.ref ax, .int (nI d)])).length) Slot.unset).toArray = ls at hl ⊢
  have hl : lv_has ls 8 [(0, .ref ax), (1, .int (nI d))] := hl
  have hS : va_S (zA [ax, ao, aq, ae, at_, aw]) s.heap s.heap [] := va_S.rf
  have hDD : zD (zA [ax, ao, aq, ae, at_, aw]) [ax, ao, aq, ae, at_, aw] := ⟨hnd, fun _ h => h⟩
  generalize hQe : MQ below _ _ _ _ _ _ = Q
  have htn := zSd_le hsd
  refine lv_aload_n hx hb dX5_noteWorthsBehind_0 rfl (lv_at hl 0 rfl) ?_
  refine va_get (D := (dC, dI)) (ci := 2) (v := .ref ae) (C := RX5) (T := TX5) (N := 9) hx hb hts hinX5 hown hK hP 0 rfl rfl 2 (by decide) (hts (.fieldLink RX5 22 "RoyalUrTable" "endings" "LRoyalUrTable$Endings;") (List.mem_of_getElem? (i := 1) rfl)) (fun _ h9 => h9) rfl dX5_noteWorthsBehind_1 ?_
  refine lv_bipush (v := 40) hx hb dX5_noteWorthsBehind_4 (by decide) ?_
  refine zrw_v (w1 := fun u : Nat × (Nat → Int32) => [(ae, .inr (0, [.ref at_, .int (nI u.1)])), (at_, .inl (cyI, 13500, .inl u.2))]) (al := [ae, at_]) (va_runV (As := [.int 40]) (rest := []) ⟨hx, hb, hml, hown, hts⟩ (c_X1_fillUpTo l dC dI cyI cyJ tb ae at_ wf kk 40 hkk (by omega) htb (z_nd hDD.1 [3, 4] (by decide) rfl)) (cwV 1 hts gX5_noteWorthsBehind_X1_fillUpTo rfl rfl rfl (by decide +kernel) ⟨(show 5 + 1 ≤ 20 by omega), (show 8 + (4 + 11) + 129 ≤ 600 by omega)⟩) (zPc_V (ci := 0) (q0 := 3) zB_X hP hK rfl rfl [3, 4] rfl (zX_at hX hS (zA_pl (al := [ax, ao, aq, ae, at_, aw]) (bl := [ae, at_]) [3, 4] rfl))) rfl rfl hl.1 rfl (lv_room (Nat.le_of_ble_eq_true rfl)) dX5_noteWorthsBehind_6 ⟨Nat.zero_le _, Nat.zero_le _⟩) hP hDD hS [3, 4] rfl (fun _ => rfl) (fun u_6 H locs hw_6 hP hS => ?_)
  have hP : va_P (dC, dI) vwCl [(ax, .inr (2, [.ref a0, .ref a1, .ref ae, .ref aw, .int (nI k), .int (nI tn), .int mk, .int wn, .int cnt])), (ao, .inr (1, [.long (lN own), .int lo])), (aq, .inr (1, [.long (lN oth), .int lq])), (ae, .inr (0, [.ref at_, .int (nI u_6.1)])), (at_, .inl (cyI, 13500, .inl u_6.2)), (aw, .inl (cyI, 15, .inl wb))] H := hP
  refine lv_aload_n hx hb dX5_noteWorthsBehind_9 rfl (lv_at hl 0 rfl) ?_
  refine lv_aload_n hx hb dX5_noteWorthsBehind_10 rfl (lv_at hl 0 rfl) ?_
  refine va_get (D := (dC, dI)) (ci := 2) (v := .int (nI tn)) (C := RX5) (T := TX5) (N := 9) hx hb hts hinX5 hown hK hP 0 rfl rfl 5 (by decide) (hts (.fieldLink RX5 59 "RoyalUrTable" "turn" "I") (List.mem_of_getElem? (i := 2) rfl)) (fun _ h9 => h9) rfl dX5_noteWorthsBehind_11 ?_
  refine zro_r (va_runV (As := [.int (nI tn)]) (rest := []) ⟨hx, hb, hml, hown, hts⟩ (c_X5_sideOf l dC dI cyI cyJ ax a0 a1 ae aw (nI k) (nI tn) mk wn cnt tn (by omega)) (cwV 1 hts gX5_noteWorthsBehind_X5_sideOf rfl rfl rfl (by decide +kernel) ⟨(show 0 + 1 ≤ 20 by omega), (show 8 + (2 + 11) + 0 ≤ 600 by omega)⟩) (zPc_V (ci := 2) (q0 := 0) zB_T hP hK rfl rfl [0] rfl (fun _ _ _ => trivial)) rfl rfl hl.1 rfl (lv_room (Nat.le_of_ble_eq_true rfl)) dX5_noteWorthsBehind_14 ⟨Nat.zero_le _, Nat.zero_le _⟩) hP hS (fun H locs hP hS => ?_)
  refine zz_r (y := ao) (zSd_o hsd) ?_
  refine va_get (D := (dC, dI)) (ci := 1) (v := .long (lN own)) (C := RX3) (T := TX3) (N := 2) hx hb hts hinX3 hown hK hP 1 rfl rfl 0 (by decide) (hts (.fieldLink RX5 70 "RoyalUrTable$Side" "layout" "J") (List.mem_of_getElem? (i := 3) rfl)) (fun _ h9 => h9) rfl dX5_noteWorthsBehind_17 ?_
  refine lv_lstore_n (lv' := [(2, .long (lN own)), (0, .ref ax), (1, .int (nI d))]) hx hb dX5_noteWorthsBehind_20 rfl hl (by decide) rfl (fun ls hl => ?_)
  refine lv_aload_n hx hb dX5_noteWorthsBehind_21 rfl (lv_at hl 1 rfl) ?_
  refine lv_iconst (v := 1) hx hb dX5_noteWorthsBehind_22 (by decide) ?_
  refine lv_aload_n hx hb dX5_noteWorthsBehind_23 rfl (lv_at hl 1 rfl) ?_
  refine va_get (D := (dC, dI)) (ci := 2) (v := .int (nI tn)) (C := RX5) (T := TX5) (N := 9) hx hb hts hinX5 hown hK hP 0 rfl rfl 5 (by decide) (hts (.fieldLink RX5 59 "RoyalUrTable" "turn" "I") (List.mem_of_getElem? (i := 2) rfl)) (fun _ h9 => h9) rfl dX5_noteWorthsBehind_24 ?_
  refine lv_isub hx hb dX5_noteWorthsBehind_27 ?_
  refine zz_i (y := nI (1 - tn)) (pk_sub (a := 1) (b := tn) (by omega)) ?_
  refine zro_r (va_runV (As := [.int (nI (1 - tn))]) (rest := []) ⟨hx, hb, hml, hown, hts⟩ (c_X5_sideOf l dC dI cyI cyJ ax a0 a1 ae aw (nI k) (nI tn) mk wn cnt (1 - tn) (by omega)) (cwV 1 hts gX5_noteWorthsBehind_X5_sideOf rfl rfl rfl (by decide +kernel) ⟨(show 0 + 1 ≤ 20 by omega), (show 8 + (2 + 11) + 0 ≤ 600 by omega)⟩) (zPc_V (ci := 2) (q0 := 0) zB_T hP hK rfl rfl [0] rfl (fun _ _ _ => trivial)) rfl rfl hl.1 rfl (lv_room (Nat.le_of_ble_eq_true rfl)) dX5_noteWorthsBehind_28 ⟨Nat.zero_le _, Nat.zero_le _⟩) hP hS (fun H locs hP hS => ?_)
  refine zz_r (y := aq) (zSd_q hsd) ?_
  refine va_get (D := (dC, dI)) (ci := 1) (v := .long (lN oth)) (C := RX3) (T := TX3) (N := 2) hx hb hts hinX3 hown hK hP 2 rfl rfl 0 (by decide) (hts (.fieldLink RX5 70 "RoyalUrTable$Side" "layout" "J") (List.mem_of_getElem? (i := 3) rfl)) (fun _ h9 => h9) rfl dX5_noteWorthsBehind_31 ?_
  refine lv_lstore (lv' := [(4, .long (lN oth)), (2, .long (lN own)), (0, .ref ax), (1, .int (nI d))]) hx hb dX5_noteWorthsBehind_34 hl (by decide) rfl (fun ls hl => ?_)
  refine lv_aload_n hx hb dX5_noteWorthsBehind_36 rfl (lv_at hl 2 rfl) ?_
  refine zro_i (va_runV (As := []) (rest := []) ⟨hx, hb, hml, hown, hts⟩ (c_X5_leadOfTurn l dC dI cyI cyJ ax a0 a1 ae aw ao aq mk wn cnt lo lq k tn own oth hsd hO hQ) (cwV 0 hts gX5_noteWorthsBehind_X5_leadOfTurn rfl rfl rfl (by decide +kernel) ⟨(show 2 + 1 ≤ 20 by omega), (show 8 + (1 + 11) + 45 ≤ 600 by omega)⟩) (zPc_V (ci := 2) (q0 := 0) zB_T hP hK rfl rfl [0, 1, 2] rfl (fun _ _ _ => trivial)) rfl rfl hl.1 rfl (lv_room (Nat.le_of_ble_eq_true rfl)) dX5_noteWorthsBehind_37 ⟨Nat.zero_le _, Nat.zero_le _⟩) hP hS (fun H locs hP hS => ?_)
  refine lv_istore (lv' := [(6, .int (zLd own oth)), (4, .long (lN oth)), (2, .long (lN own)), (0, .ref ax), (1, .int (nI d))]) hx hb dX5_noteWorthsBehind_40 hl (by decide) rfl (fun ls hl => ?_)
  refine lv_iconst (v := 0) hx hb dX5_noteWorthsBehind_42 (by decide) ?_
  refine lv_istore (lv' := [(7, .int 0), (6, .int (zLd own oth)), (4, .long (lN oth)), (2, .long (lN own)), (0, .ref ax), (1, .int (nI d))]) hx hb dX5_noteWorthsBehind_43 hl (by decide) rfl (fun ls hl => ?_)
  have lp : ∀ (n9 : Nat) (i : Nat) (g : Nat → Int32), i ≤ 15 → (∀ j, j < i → g j = zWB k d own oth mm j) → 15 - i < n9 → ∀ (H : Heap) (locs : List Loc), va_P (dC, dI) vwCl [(ax, .inr (2, [.ref a0, .ref a1, .ref ae, .ref aw, .int (nI k), .int (nI tn), .int mk, .int wn, .int cnt])), (ao, .inr (1, [.long (lN own), .int lo])), (aq, .inr (1, [.long (lN oth), .int lq])), (ae, .inr (0, [.ref at_, .int (nI u_6.1)])), (at_, .inl (cyI, 13500, .inl u_6.2)), (aw, .inl (cyI, 15, .inl g))] H → va_S (zA [ax, ao, aq, ae, at_, aw]) s.heap H locs → ∀ ls : Array Slot, lv_has ls 8 [(7, .int (nI i)), (0, .ref ax), (1, .int (nI d)), (2, .long (lN own)), (4, .long (lN oth)), (6, .int (zLd own oth))] → W p l e (headSpec wsX5_noteWorthsBehind ({ frames := 20, cells := 0, slots := 0, locals := 600 })).room s m ([.ref ax, .int (nI d)] : List Value).toArray below meth c H locs 0 0 Q (F0 m 45 ls []) := by
    intro n9
    induction n9 with
    | zero => intro i g hi2 hg hm9; exact absurd hm9 (Nat.not_lt_zero _)
    | succ n9 ih45 =>
      intro i g hi2 hg hm9 H locs hP hS ls hl
      refine lv_iload hx hb dX5_noteWorthsBehind_45 (lv_at hl 0 rfl) ?_
      refine lv_aload_n hx hb dX5_noteWorthsBehind_47 rfl (lv_at hl 1 rfl) ?_
      refine va_get (D := (dC, dI)) (ci := 2) (v := .ref aw) (C := RX5) (T := TX5) (N := 9) hx hb hts hinX5 hown hK hP 0 rfl rfl 3 (by decide) (hts (.fieldLink RX5 28 "RoyalUrTable" "worthsBehind" "[I") (List.mem_of_getElem? (i := 4) rfl)) (fun _ h9 => h9) rfl dX5_noteWorthsBehind_48 ?_
      refine va_alen (v := 15) hx hb hK hP 5 0 rfl rfl rfl dX5_noteWorthsBehind_51 ?_
      refine lv_icmp_ge (tgt := 103) hx hb dX5_noteWorthsBehind_52 (by decide) (fun c_52 => ?_) (fun c_52 => ?_)
      · skip
        have c_52 : 15 ≤ i := (nI_leI (a := 15) (b := i) (by omega) (by omega)).mp c_52
        subst hQe
        exact W.vret hx hb hr (fun t ht hW => ⟨⟨(u_6.1, u_6.2, g), rfl, ⟨hw_6.1, hw_6.2.2, fun j hj => hg j (by omega)⟩, zh ht hP⟩, hS.F ht⟩) hS.2.2 dX5_noteWorthsBehind_103
      · skip
        have c_52 : ¬ 15 ≤ i := fun h9 => c_52 ((nI_leI (a := 15) (b := i) (by omega) (by omega)).mpr h9)
        refine lv_aload_n hx hb dX5_noteWorthsBehind_55 rfl (lv_at hl 1 rfl) ?_
        refine va_get (D := (dC, dI)) (ci := 2) (v := .ref aw) (C := RX5) (T := TX5) (N := 9) hx hb hts hinX5 hown hK hP 0 rfl rfl 3 (by decide) (hts (.fieldLink RX5 28 "RoyalUrTable" "worthsBehind" "[I") (List.mem_of_getElem? (i := 4) rfl)) (fun _ h9 => h9) rfl dX5_noteWorthsBehind_56 ?_
        refine lv_iload hx hb dX5_noteWorthsBehind_59 (lv_at hl 0 rfl) ?_
        refine lv_lload_n hx hb dX5_noteWorthsBehind_61 rfl (lv_at hl 3 rfl) ?_
        refine lv_lload hx hb dX5_noteWorthsBehind_62 (lv_at hl 4 rfl) ?_
        refine lv_iload hx hb dX5_noteWorthsBehind_64 (lv_at hl 0 rfl) ?_
        refine lv_aload_n hx hb dX5_noteWorthsBehind_66 rfl (lv_at hl 1 rfl) ?_
        refine va_get (D := (dC, dI)) (ci := 2) (v := .int mk) (C := RX5) (T := TX5) (N := 9) hx hb hts hinX5 hown hK hP 0 rfl rfl 6 (by decide) (hts (.fieldLink RX5 46 "RoyalUrTable" "marksTold" "I") (List.mem_of_getElem? (i := 5) rfl)) (fun _ h9 => h9) rfl dX5_noteWorthsBehind_67 ?_
        refine zro_i (va_runS (As := [.long (lN own), .long (lN oth), .int (nI i), .int mk]) (rest := [.int (nI i), .ref aw]) ⟨hx, hb, hml, hown, hts⟩ (c_X2_canMove l own oth i mm mk hO.lt hQ.lt (by omega) hmm hmk) (va_cwS 4 hts gX5_noteWorthsBehind_X2_canMove rfl rfl rfl (by decide +kernel) ⟨(show 1 + 1 ≤ 20 by omega), (show 8 + (7 + 11) + 22 ≤ 600 by omega)⟩) zPu rfl rfl hl.1 rfl (lv_room (Nat.le_of_ble_eq_true rfl)) dX5_noteWorthsBehind_70 ⟨Nat.zero_le _, Nat.zero_le _⟩) hP hS (fun H locs hP hS => ?_)
        refine lv_if_eq (tgt := 95) hx hb dX5_noteWorthsBehind_73 (by decide) (fun c_73 => ?_) (fun c_73 => ?_)
        · skip
          have c_73 := bI_0.mp c_73
          refine lv_iconst (v := -1) hx hb dX5_noteWorthsBehind_95 (by decide) ?_
          refine zi_iast hx hb hK hP hDD hS 5 0 rfl rfl (j := i) rfl (by omega) (by decide) dX5_noteWorthsBehind_96 (fun H locs hP hS => ?_)
          have hP : va_P (dC, dI) vwCl [(ax, .inr (2, [.ref a0, .ref a1, .ref ae, .ref aw, .int (nI k), .int (nI tn), .int mk, .int wn, .int cnt])), (ao, .inr (1, [.long (lN own), .int lo])), (aq, .inr (1, [.long (lN oth), .int lq])), (ae, .inr (0, [.ref at_, .int (nI u_6.1)])), (at_, .inl (cyI, 13500, .inl u_6.2)), (aw, .inl (cyI, 15, .inl (upd g i (-1))))] H := hP
          refine lv_iinc (v := nI (i + 1)) (lv' := [(7, .int (nI (i + 1))), (0, .ref ax), (1, .int (nI d)), (2, .long (lN own)), (4, .long (lN oth)), (6, .int (zLd own oth))]) hx hb dX5_noteWorthsBehind_97 hl (k := 0) rfl (nI_1 i) (by decide) rfl (fun ls hl => ?_)
          refine lv_goto (tgt := 45) hx hb dX5_noteWorthsBehind_100 (by decide) ?_
          exact ih45 (i + 1) _ (by omega) (zWB_n hg c_73) (by omega) _ _ hP hS _ (lv_sub hl [0, 1, 2, 3, 4, 5] rfl)
        · skip
          have c_73 := bI_1.mp c_73
          refine lv_aload_n hx hb dX5_noteWorthsBehind_76 rfl (lv_at hl 1 rfl) ?_
          refine lv_lload_n hx hb dX5_noteWorthsBehind_77 rfl (lv_at hl 3 rfl) ?_
          refine lv_lload hx hb dX5_noteWorthsBehind_78 (lv_at hl 4 rfl) ?_
          refine lv_iload hx hb dX5_noteWorthsBehind_80 (lv_at hl 5 rfl) ?_
          refine lv_iload hx hb dX5_noteWorthsBehind_82 (lv_at hl 0 rfl) ?_
          refine lv_aload_n hx hb dX5_noteWorthsBehind_84 rfl (lv_at hl 1 rfl) ?_
          refine va_get (D := (dC, dI)) (ci := 2) (v := .int mk) (C := RX5) (T := TX5) (N := 9) hx hb hts hinX5 hown hK hP 0 rfl rfl 6 (by decide) (hts (.fieldLink RX5 46 "RoyalUrTable" "marksTold" "I") (List.mem_of_getElem? (i := 5) rfl)) (fun _ h9 => h9) rfl dX5_noteWorthsBehind_85 ?_
          refine zz_i (y := nI mm) (zmk_eq hmk (zcm_spec c_73).1) ?_
          refine lv_iload_n hx hb dX5_noteWorthsBehind_88 rfl (lv_at hl 2 rfl) ?_
          refine zro_i (va_runV (As := [.long (lN own), .long (lN oth), .int (zLd own oth), .int (nI i), .int (nI mm), .int (nI d)]) (rest := [.int (nI i), .ref aw]) ⟨hx, hb, hml, hown, hts⟩ (c_X5_worthBehindMove l dC dI cyI cyJ tb ax a0 a1 ae aw at_ (nI tn) mk wn cnt (nI u_6.1) u_6.2 k u_6.1 hk1 hw_6.2.2 hw_6.2.1 hw_6.1 d (by omega) own oth i mm hO hQ (by omega) (by omega) c_73) (cwV 6 hts gX5_noteWorthsBehind_X5_worthBehindMove rfl rfl rfl (by decide +kernel) ⟨(show (3 * d + 7) + 1 ≤ 20 by omega), (show 8 + (15 + 11) + (92 * d + 229) ≤ 600 by omega)⟩) (zPc_V (ci := 2) (q0 := 0) zB_X hP hK rfl rfl [0, 3, 4] rfl (zX_at hX hS zF_A)) rfl rfl hl.1 rfl (lv_room (Nat.le_of_ble_eq_true rfl)) dX5_noteWorthsBehind_89 ⟨Nat.zero_le _, Nat.zero_le _⟩) hP hS (fun H locs hP hS => ?_)
          refine lv_goto (tgt := 96) hx hb dX5_noteWorthsBehind_92 (by decide) ?_
          refine zi_iast hx hb hK hP hDD hS 5 0 rfl rfl (j := i) rfl (by omega) (by decide) dX5_noteWorthsBehind_96 (fun H locs hP hS => ?_)
          have hP : va_P (dC, dI) vwCl [(ax, .inr (2, [.ref a0, .ref a1, .ref ae, .ref aw, .int (nI k), .int (nI tn), .int mk, .int wn, .int cnt])), (ao, .inr (1, [.long (lN own), .int lo])), (aq, .inr (1, [.long (lN oth), .int lq])), (ae, .inr (0, [.ref at_, .int (nI u_6.1)])), (at_, .inl (cyI, 13500, .inl u_6.2)), (aw, .inl (cyI, 15, .inl (upd g i (nI (zBM (zV k d) own oth i mm)))))] H := hP
          refine lv_iinc (v := nI (i + 1)) (lv' := [(7, .int (nI (i + 1))), (0, .ref ax), (1, .int (nI d)), (2, .long (lN own)), (4, .long (lN oth)), (6, .int (zLd own oth))]) hx hb dX5_noteWorthsBehind_97 hl (k := 0) rfl (nI_1 i) (by decide) rfl (fun ls hl => ?_)
          refine lv_goto (tgt := 45) hx hb dX5_noteWorthsBehind_100 (by decide) ?_
          exact ih45 (i + 1) _ (by omega) (zWB_y hg c_73) (by omega) _ _ hP hS _ (lv_sub hl [0, 1, 2, 3, 4, 5] rfl)
  exact lp 16 0 wb (by omega) (fun j h => absurd h (Nat.not_lt_zero _)) (by omega) _ _ hP hS _ (lv_sub hl [0, 4, 5, 3, 2, 1] rfl)
end
section
/-! the class's own calls -/
theorem zS_w {A : Nat → Prop} {H0 H : Heap} {locs : List Loc} (h : va_S zF H0 H locs) : va_S A H0 H locs := ⟨h.1, fun q h1 _ => h.2.1 q h1 (fun z => z), fun l hl => (h.2.2 l hl).elim⟩
theorem zthx {s t : State} {H : Heap} {locs : List Loc} (hS : va_S zF s.heap H locs) (hz : H.size ≤ t.heap.size) (hk : ∀ q : Nat, q < H.size → t.heap[q]? = H[q]?) : va_F zF s t :=
  ⟨Nat.le_trans hS.1 hz, fun q h1 _ => (hk q (Nat.lt_of_lt_of_le h1 hS.1)).trans (hS.2.1 q h1 (fun z => z))⟩
section ZT
variable {p : Program} {l : Launch} {e : Env} {R : Room} {s : State} {m : MethodId} {args : Array Value} {below : List Frame} {meth : Method} {c : Code} {H : Heap} {locs : List Loc} {cells slots : Nat}
variable {pc : Nat} {ls : Array Slot} {rest st0 : List Value} {D : va_G} {cl : List vw_C} {ws : va_W} {av : Array Value} {Qc : Array Value → State → Outcome → State → Prop} {XC : String → State → State → Prop} {mc ms : Nat} {free : Addr → Prop}
/-- a call that says G, or throws an X out of this method too -/
theorem zth_v {G N : Prop} {X : String} {m1 s1 : Nat} (hr : vx_Run p l e R s m args below meth c H locs cells slots m1 s1 (F0 m pc ls st0) rest (va_Qv (fun (_ : Unit) => G) (fun _ _ => True) zF av) (vx_X (fun (_ : Unit) => N) (fun (E : String) _ _ => E = X) zF) zF) (hP : va_P D cl ws H) (hS : va_S zF s.heap H locs)
    (hout : ∀ x ∈ c.exceptionTable.toList, covers x pc = false) (hlocks : meth.locks = false) (hx : N → ∀ t : State, va_F zF s t → XC X s t) (hc : cells + m1 ≤ mc) (hs : slots + s1 ≤ ms)
    (kk : ∀ (H1 : Heap) (locs1 : List Loc), G → va_P D cl ws H1 → va_S zF s.heap H1 locs1 → W p l e R s m args below meth c H1 locs1 (cells + m1) (slots + s1) (vx_MQ below Qc XC args s mc ms free) (F0 m (pc + 3) ls rest)) :
    W p l e R s m args below meth c H locs cells slots (vx_MQ below Qc XC args s mc ms free) (F0 m pc ls st0) :=
  vx_callv hr hS (fun _ _ h => h.elim) (fun _ h => h.elim) (fun _ _ h => h.elim)
    (fun E ce q9 u t H1 locs1 ht hvm hN hE hz hk hS1 hce hcv hcl => by
      have hE : E = X := hE
      subst hE
      exact vx_out hout hlocks hce hcv hcl (fun t2 ht2 _ => hx hN t2 ⟨by rw [ht2]; exact hS1.1, fun q h1 h2 => by rw [ht2]; exact hS1.2.1 q h1 h2⟩) (fun z hz => (hS1.2.2 z hz).elim) hc hs)
    (fun u t H1 locs1 ht hvm hG hB hz hk hS1 => kk H1 locs1 hG (hP.kept (fun k q hq => hk q.1 (hP k q hq).lt (fun h => h))) hS1)
end ZT
theorem zrng {v : Int32} {n : Nat} (hn : n < 2 ^ 31) (h : 0 ≤ v ∧ v ≤ nI n) : ∃ j, j ≤ n ∧ v = nI j :=
  nI_of2 (M := nI n) (nI_toInt hn) (Int32.not_lt.mpr h.1) h.2
/-- v in 0 .. n -/
def zin (v : Int32) (n : Nat) : Prop := ∃ j, j ≤ n ∧ v = nI j
theorem zin_iff {v : Int32} {n : Nat} (hn : n < 2 ^ 31) : (0 ≤ v ∧ v ≤ nI n) ↔ zin v n := by
  constructor
  · exact zrng hn
  · rintro ⟨j, h1, rfl⟩
    exact ⟨(nI_leI (a := 0) (b := j) (by omega) (by omega)).mpr (by omega), (nI_leI (by omega) hn).mpr h1⟩
/-- v in 1 .. n -/
theorem zin1_iff {v : Int32} {n : Nat} (hn : n < 2 ^ 31) : (1 ≤ v ∧ v ≤ nI n) ↔ ∃ j, 1 ≤ j ∧ j ≤ n ∧ v = nI j := by
  constructor
  · intro h
    obtain ⟨j, h1, rfl⟩ := zrng hn ⟨by have := h.1; rw [Int32.le_iff_toInt_le] at *; have h9 : (1 : Int32).toInt = 1 := rfl; have h8 : (0 : Int32).toInt = 0 := rfl; omega, h.2⟩
    exact ⟨j, (nI_leI (a := 1) (b := j) (by omega) (by omega)).mp h.1, h1, rfl⟩
  · rintro ⟨j, h0, h1, rfl⟩
    exact ⟨(nI_leI (a := 1) (b := j) (by omega) (by omega)).mpr h0, (nI_leI (by omega) hn).mpr h1⟩
/-- places of an ending -/
def zEnd (v w : Int32) : Prop := ∃ a b : Nat, a ≤ 14 ∧ b ≤ 14 ∧ v = nI a ∧ w = nI b ∧ ¬ (a = b ∧ zshr a = true)
theorem zSd_e {tn a0 a1 ao aq x : Nat} (h : zSd tn a0 a1 ao aq) (hx : x ≤ 1) (e : x = tn) : (if x = 0 then a0 else a1) = ao := by
  subst e; exact zSd_o h
theorem zSd_n {tn a0 a1 ao aq x : Nat} (h : zSd tn a0 a1 ao aq) (hx : x ≤ 1) (e : ¬ x = tn) : (if x = 0 then a0 else a1) = aq := by
  have := zSd_le h
  rw [show x = 1 - tn by omega]; exact zSd_q h
set_option maxHeartbeats 4000000 in
set_option maxRecDepth 100000 in
theorem c_X5_refuseEnding (l : Launch) (hl0 : l.stackTraces = false) (v w9 : Int32) : vx_Met l yX5_refuseEnding wsX5_refuseEnding ({ frames := 7, cells := 3, slots := 18, locals := 112 }) (va_Pc [.int v, .int w9] (fun U => zY zF U U.heap)) (va_Qv (fun (_ : Unit) => zEnd v w9) (fun _ _ => True) zF) (vx_X (fun (_ : Unit) => True) (fun (E : String) _ _ => E = zIA ∧ ¬ zEnd v w9) zF) 3 18 zF := by
  refine vx_ofW (cc := cX5_refuseEnding) (maxL := 2) (ret := none) (by decide) rfl ?_
  intro p e s m args below meth c s₁ B hml hnt hv
  obtain ⟨rfl, hX⟩ := hv
  have hx := B.exec
  have hb := B.bytes
  have hr := B.returns
  have hts := atoms_spec (ws := wsX5_refuseEnding) B.pre
  have hown : s.vm.findClass RX5 = some m.cls := findClass_of_methodNamed B.named
  have hlocks := B.notSynchronized
  have hl := lv_entry ([.int v, .int w9]) (n := 2) (Nat.le_of_ble_eq_true rfl)
  rw [lg_entry_eq]
  generalize (lg_sl ([.int v, .int w9]) ++ List.replicate (2 - (lg_sl ([.int v, .int w9])).length) Slot.unset).toArray = ls at hl ⊢
  have hl : lv_has ls 2 [(0, .int v), (1, .int w9)] := hl
  have hP : va_P zG0 [] [] s.heap := fun k q h => by simp at h
  have hS : va_S zF s.heap s.heap [] := va_S.rf
  have hl9 := hl.1.trans hml.symm
  have hY : zY zF s s.heap := (hX).narrow zF_A
  refine lv_iload_n hx hb dX5_refuseEnding_0 rfl (lv_at hl 0 rfl) ?_
  refine lv_iconst (v := 0) hx hb dX5_refuseEnding_1 (by decide) ?_
  refine lv_bipush (v := 14) hx hb dX5_refuseEnding_2 (by decide) ?_
  refine zth_v (m1 := 1) (s1 := 6) (vx_runS (As := [.int v, .int 0, .int 14]) (rest := []) ⟨hx, hb, hml, hown, hts⟩ (c_X5_refuseOutside l hl0 v 0 14) (va_cwS 3 hts gX5_refuseEnding_X5_refuseOutside rfl rfl rfl (by decide +kernel) ⟨Nat.le_of_ble_eq_true rfl, Nat.le_of_ble_eq_true rfl⟩) (zPx zB_Y (zY_at hY hS zF_A)) rfl rfl hl.1 rfl (lv_room (Nat.le_of_ble_eq_true rfl)) dX5_refuseEnding_4 ⟨Nat.le_of_ble_eq_true rfl, Nat.le_of_ble_eq_true rfl⟩) hP hS (fun x hx9 => (hnt x hx9).elim) hlocks (fun hN t ht => ⟨(), trivial, ⟨rfl, fun ⟨a, b, h1, h2, h3, h4, h5⟩ => hN ((zin_iff (n := 14) (by decide)).mpr ⟨a, h1, h3⟩)⟩, ht⟩) (Nat.le_of_ble_eq_true rfl) (Nat.le_of_ble_eq_true rfl) (fun H locs hG_4 hP hS => ?_)
  obtain ⟨a, ha, rfl⟩ := (zin_iff (n := 14) (by decide)).mp hG_4
  refine lv_iload_n hx hb dX5_refuseEnding_7 rfl (lv_at hl 1 rfl) ?_
  refine lv_iconst (v := 0) hx hb dX5_refuseEnding_8 (by decide) ?_
  refine lv_bipush (v := 14) hx hb dX5_refuseEnding_9 (by decide) ?_
  refine zth_v (m1 := 1) (s1 := 6) (vx_runS (As := [.int w9, .int 0, .int 14]) (rest := []) ⟨hx, hb, hml, hown, hts⟩ (c_X5_refuseOutside l hl0 w9 0 14) (va_cwS 3 hts gX5_refuseEnding_X5_refuseOutside rfl rfl rfl (by decide +kernel) ⟨Nat.le_of_ble_eq_true rfl, Nat.le_of_ble_eq_true rfl⟩) (zPx zB_Y (zY_at hY hS zF_A)) rfl rfl hl.1 rfl (lv_room (Nat.le_of_ble_eq_true rfl)) dX5_refuseEnding_11 ⟨Nat.le_of_ble_eq_true rfl, Nat.le_of_ble_eq_true rfl⟩) hP hS (fun x hx9 => (hnt x hx9).elim) hlocks (fun hN t ht => ⟨(), trivial, ⟨rfl, fun ⟨a, b, h1, h2, h3, h4, h5⟩ => hN ((zin_iff (n := 14) (by decide)).mpr ⟨b, h2, h4⟩)⟩, ht⟩) (Nat.le_of_ble_eq_true rfl) (Nat.le_of_ble_eq_true rfl) (fun H locs hG_11 hP hS => ?_)
  obtain ⟨b9, hb9, rfl⟩ := (zin_iff (n := 14) (by decide)).mp hG_11
  refine lv_iload_n hx hb dX5_refuseEnding_14 rfl (lv_at hl 0 rfl) ?_
  refine lv_iload_n hx hb dX5_refuseEnding_15 rfl (lv_at hl 1 rfl) ?_
  refine lv_icmp_ne (tgt := 34) hx hb dX5_refuseEnding_16 (by decide) (fun c_16 => ?_) (fun c_16 => ?_)
  · skip
    have c_16 : ¬ a = b9 := fun h9 => c_16 ((nI_eq (a := a) (b := b9) (by omega) (by omega)).mpr h9)
    refine vx_ret (mc := 3) (ms := 18) ?_
    refine W.widen (k := 3) (n := 18) (Nat.le_of_ble_eq_true rfl) (Nat.le_of_ble_eq_true rfl) ?_
    exact W.vret hx hb hr (fun t ht hW => ⟨⟨(), rfl, ⟨a, b9, ha, hb9, rfl, rfl, fun h => c_16 h.1⟩, trivial⟩, hS.F ht⟩) hS.2.2 dX5_refuseEnding_34
  · skip
    have c_16 : a = b9 := (nI_eq (a := a) (b := b9) (by omega) (by omega)).mp c_16
    refine lv_iload_n hx hb dX5_refuseEnding_19 rfl (lv_at hl 0 rfl) ?_
    refine zro_i (va_runS (As := [.int (nI a)]) (rest := []) ⟨hx, hb, hml, hown, hts⟩ (c_X4_isShared l a (by omega)) (va_cwS 1 hts gX5_refuseEnding_X4_isShared rfl rfl rfl (by decide +kernel) ⟨Nat.le_of_ble_eq_true rfl, Nat.le_of_ble_eq_true rfl⟩) zPu rfl rfl hl.1 rfl (lv_room (Nat.le_of_ble_eq_true rfl)) dX5_refuseEnding_20 ⟨Nat.le_of_ble_eq_true rfl, Nat.le_of_ble_eq_true rfl⟩) hP hS (fun H locs hP hS => ?_)
    refine lv_if_eq (tgt := 34) hx hb dX5_refuseEnding_23 (by decide) (fun c_23 => ?_) (fun c_23 => ?_)
    · skip
      have c_23 := bI_0.mp c_23
      refine vx_ret (mc := 3) (ms := 18) ?_
      refine W.widen (k := 3) (n := 18) (Nat.le_of_ble_eq_true rfl) (Nat.le_of_ble_eq_true rfl) ?_
      exact W.vret hx hb hr (fun t ht hW => ⟨⟨(), rfl, ⟨a, b9, ha, hb9, rfl, rfl, fun h => by rw [h.2] at c_23; cases c_23⟩, trivial⟩, hS.F ht⟩) hS.2.2 dX5_refuseEnding_34
    · skip
      have c_23 := bI_1.mp c_23
      exact vx_throw0 (cls := "java/lang/IllegalArgumentException") (names := ["java/lang/RuntimeException", "java/lang/Exception"]) (ik := 108) (ic := 110) (A := zF) hx hb hl0 hown (by decide +kernel) (by decide +kernel) (hts (.classLink RX5 108 "java/lang/IllegalArgumentException") (List.mem_of_getElem? (i := 1) rfl)) (hts (.initialized "java/lang/IllegalArgumentException") (List.mem_of_getElem? (i := 2) rfl)) (vx_hat (fun w h => hts w (List.mem_cons_of_mem _ (List.mem_append_right _ h))) (by decide +kernel) (vx_c (va_Nw.use rfl hY.2.2.1) (vx_c (va_Nw.use rfl hY.2.2.2.1) (vx_c (va_Nw.use rfl hY.2.2.2.2.1) (vx_c (va_Nw.use rfl hY.2.2.2.2.2.1) vx_n))))) (by decide +kernel) hY.1 hY.2.1 hS hl9 dX5_refuseEnding_26 dX5_refuseEnding_29 dX5_refuseEnding_30 dX5_refuseEnding_33 (fun x hx9 => (hnt x hx9).elim) (Nat.le_of_ble_eq_true rfl) (Nat.le_of_ble_eq_true rfl) (Nat.le_of_ble_eq_true rfl) (Nat.le_of_ble_eq_true rfl) hlocks (fun t hv hz hk => ⟨(), trivial, ⟨rfl, fun ⟨a9, b9, h1, h2, h3, h4, h5⟩ => h5 ⟨((nI_eq (by omega) (by omega)).mp h3).symm.trans (c_16.trans ((nI_eq (by omega) (by omega)).mp h4)), by rw [← (nI_eq (by omega) (by omega)).mp h3]; exact c_23⟩⟩, zthx hS hz hk⟩) (fun z hz => (hS.2.2 z hz).elim) (Nat.le_of_ble_eq_true rfl) (Nat.le_of_ble_eq_true rfl)
end

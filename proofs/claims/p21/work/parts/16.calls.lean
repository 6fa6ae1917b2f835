/-! the class's own calls -/
theorem zS_w {A : Nat → Prop} {H0 H : Heap} {locs : List Loc} (h : va_S zF H0 H locs) : va_S A H0 H locs := ⟨h.1, fun q h1 _ => h.2.1 q h1 (fun z => z), fun l hl => (h.2.2 l hl).elim⟩
theorem zthx {s t : State} {H : Heap} {locs : List Loc} (hS : va_S zF s.heap H locs) (hz : H.size ≤ t.heap.size) (hk : ∀ q : Nat, q < H.size → t.heap[q]? = H[q]?) : va_F zF s t :=
  ⟨Nat.le_trans hS.1 hz, fun q h1 _ => (hk q (Nat.lt_of_lt_of_le h1 hS.1)).trans (hS.2.1 q h1 (fun z => z))⟩
section ZT
variable {p : Program} {l : Launch} {e : Env} {R : Room} {s : State} {m : MethodId} {args : Array Value} {below : List Frame} {meth : Method} {c : Code} {H : Heap} {locs : List Loc} {cells slots : Nat}
variable {pc : Nat} {ls : Array Slot} {rest st0 : List Value} {D : va_G} {cl : List vw_C} {ws : va_W} {av : Array Value} {Qc : Array Value → State → Outcome → State → Prop} {XC : String → State → State → Prop} {mc ms : Nat} {free : Addr → Prop}
/-- a call that says G, or throws an X out of this method too -/
theorem zth_v {G N : Prop} {X : String} {m1 s1 : Nat} (hr : vx_Run p l e R s m args below meth c H locs cells slots m1 s1 (F0 m pc ls st0) rest (va_Qv (fun (_ : Unit) => G) (fun _ _ => True) zF av) (vx_X (fun (_ : Unit) => N) (fun (E : String) _ _ => E = X) zF) zF) (hP : va_P D cl ws H) (hS : va_S zF s.heap H locs)
    (hout : ∀ x ∈ c.exceptionTable.toList, covers x pc = false) (hlocks : meth.locks = false) (hx : N → ∀ t : State, va_F zF s t → XC X s t) (hc : cells + m1 ≤ mc) (hs : slots + s1 ≤ ms)
    (kk : ∀ (H1 : Heap) (locs1 : List Loc), G → va_P D cl ws H1 → va_S zF s.heap H1 locs1 → W p l e R s m args below meth c H1 locs1 (cells + m1) (slots + s1) (vx_MQ below Qc XC args s mc ms free) (F0 m (pc + 3) ls rest)) :
    W p l e R s m args below meth c H locs cells slots (vx_MQ below Qc XC args s mc ms free) (F0 m pc ls st0) :=
  vx_callv hr hS (fun _ _ h => h.elim) (fun _ h => h.elim) (fun _ _ h => h.elim)
    (fun E ce q9 u t H1 locs1 ht hvm hN hE hz hk hS1 hce hcv hcl => by
      have hE : E = X := hE
      subst hE
      exact vx_out hout hlocks hce hcv hcl (fun t2 ht2 _ => hx hN t2 ⟨by rw [ht2]; exact hS1.1, fun q h1 h2 => by rw [ht2]; exact hS1.2.1 q h1 h2⟩) (fun z hz => (hS1.2.2 z hz).elim) hc hs)
    (fun u t H1 locs1 ht hvm hG hB hz hk hS1 => kk H1 locs1 hG (hP.kept (fun k q hq => hk q.1 (hP k q hq).lt (fun h => h))) hS1)
end ZT
theorem zrng {v : Int32} {n : Nat} (hn : n < 2 ^ 31) (h : 0 ≤ v ∧ v ≤ nI n) : ∃ j, j ≤ n ∧ v = nI j :=
  nI_of2 (M := nI n) (nI_toInt hn) (Int32.not_lt.mpr h.1) h.2
/-- v in 0 .. n -/
def zin (v : Int32) (n : Nat) : Prop := ∃ j, j ≤ n ∧ v = nI j
theorem zin_iff {v : Int32} {n : Nat} (hn : n < 2 ^ 31) : (0 ≤ v ∧ v ≤ nI n) ↔ zin v n := by
  constructor
  · exact zrng hn
  · rintro ⟨j, h1, rfl⟩
    exact ⟨(nI_leI (a := 0) (b := j) (by omega) (by omega)).mpr (by omega), (nI_leI (by omega) hn).mpr h1⟩
/-- v in 1 .. n -/
theorem zin1_iff {v : Int32} {n : Nat} (hn : n < 2 ^ 31) : (1 ≤ v ∧ v ≤ nI n) ↔ ∃ j, 1 ≤ j ∧ j ≤ n ∧ v = nI j := by
  constructor
  · intro h
    obtain ⟨j, h1, rfl⟩ := zrng hn ⟨by have := h.1; rw [Int32.le_iff_toInt_le] at *; have h9 : (1 : Int32).toInt = 1 := rfl; have h8 : (0 : Int32).toInt = 0 := rfl; omega, h.2⟩
    exact ⟨j, (nI_leI (a := 1) (b := j) (by omega) (by omega)).mp h.1, h1, rfl⟩
  · rintro ⟨j, h0, h1, rfl⟩
    exact ⟨(nI_leI (a := 1) (b := j) (by omega) (by omega)).mpr h0, (nI_leI (by omega) hn).mpr h1⟩
/-- places of an ending -/
def zEnd (v w : Int32) : Prop := ∃ a b : Nat, a ≤ 14 ∧ b ≤ 14 ∧ v = nI a ∧ w = nI b ∧ ¬ (a = b ∧ zshr a = true)
theorem zSd_e {tn a0 a1 ao aq x : Nat} (h : zSd tn a0 a1 ao aq) (hx : x ≤ 1) (e : x = tn) : (if x = 0 then a0 else a1) = ao := by
  subst e; exact zSd_o h
theorem zSd_n {tn a0 a1 ao aq x : Nat} (h : zSd tn a0 a1 ao aq) (hx : x ≤ 1) (e : ¬ x = tn) : (if x = 0 then a0 else a1) = aq := by
  have := zSd_le h
  rw [show x = 1 - tn by omega]; exact zSd_q h
set_option maxHeartbeats 4000000 in
set_option maxRecDepth 100000 in
theorem c_X5_refuseEnding (l : Launch) (hl0 : l.stackTraces = false) (v w9 : Int32) : vx_Met l yX5_refuseEnding wsX5_refuseEnding ({ frames := 7, cells := 3, slots := 18, locals := 112 }) (va_Pc [.int v, .int w9] (fun U => zY zF U U.heap)) (va_Qv (fun (_ : Unit) => zEnd v w9) (fun _ _ => True) zF) (vx_X (fun (_ : Unit) => ¬ zEnd v w9) (fun (E : String) _ _ => E = zIA) zF) 3 18 zF := by
  refine vx_ofW (cc := cX5_refuseEnding) (maxL := 2) (ret := none) (by decide) rfl ?_
  intro p e s m args below meth c s₁ B hml hnt hv
  obtain ⟨rfl, hX⟩ := hv
  have hx := B.exec
  have hb := B.bytes
  have hr := B.returns
  have hts := atoms_spec (ws := wsX5_refuseEnding) B.pre
  have hown : s.vm.findClass RX5 = some m.cls := findClass_of_methodNamed B.named
  have hlocks := B.notSynchronized
  have hl := lv_entry ([.int v, .int w9]) (n := 2) (Nat.le_of_ble_eq_true rfl)
  rw [lg_entry_eq]
  generalize (lg_sl ([.int v, .int w9]) ++ List.replicate (2 - (lg_sl ([.int v, .int w9])).length) Slot.unset).toArray = ls at hl ⊢
  have hl : lv_has ls 2 [(0, .int v), (1, .int w9)] := hl
  have hP : va_P zG0 [] [] s.heap := fun k q h => by simp at h
  have hS : va_S zF s.heap s.heap [] := va_S.rf
  have hl9 := hl.1.trans hml.symm
  have hY : zY zF s s.heap := (hX).narrow zF_A
  refine lv_iload_n hx hb dX5_refuseEnding_0 rfl (lv_at hl 0 rfl) ?_
  refine lv_iconst (v := 0) hx hb dX5_refuseEnding_1 (by decide) ?_
  refine lv_bipush (v := 14) hx hb dX5_refuseEnding_2 (by decide) ?_
  refine zth_v (m1 := 1) (s1 := 6) (vx_runS (As := [.int v, .int 0, .int 14]) (rest := []) ⟨hx, hb, hml, hown, hts⟩ (c_X5_refuseOutside l hl0 v 0 14) (va_cwS 3 hts gX5_refuseEnding_X5_refuseOutside rfl rfl rfl (by decide +kernel) ⟨Nat.le_of_ble_eq_true rfl, Nat.le_of_ble_eq_true rfl⟩) (zPx zB_Y (zY_at hY hS zF_A)) rfl rfl hl.1 rfl (lv_room (Nat.le_of_ble_eq_true rfl)) dX5_refuseEnding_4 ⟨Nat.le_of_ble_eq_true rfl, Nat.le_of_ble_eq_true rfl⟩) hP hS (fun x hx9 => (hnt x hx9).elim) hlocks (fun hN t ht => ⟨(), fun ⟨a, b, h1, h2, h3, h4, h5⟩ => hN ((zin_iff (n := 14) (by decide)).mpr ⟨a, h1, h3⟩), rfl, ht⟩) (Nat.le_of_ble_eq_true rfl) (Nat.le_of_ble_eq_true rfl) (fun H locs hG_4 hP hS => ?_)
  obtain ⟨a, ha, rfl⟩ := (zin_iff (n := 14) (by decide)).mp hG_4
  refine lv_iload_n hx hb dX5_refuseEnding_7 rfl (lv_at hl 1 rfl) ?_
  refine lv_iconst (v := 0) hx hb dX5_refuseEnding_8 (by decide) ?_
  refine lv_bipush (v := 14) hx hb dX5_refuseEnding_9 (by decide) ?_
  refine zth_v (m1 := 1) (s1 := 6) (vx_runS (As := [.int w9, .int 0, .int 14]) (rest := []) ⟨hx, hb, hml, hown, hts⟩ (c_X5_refuseOutside l hl0 w9 0 14) (va_cwS 3 hts gX5_refuseEnding_X5_refuseOutside rfl rfl rfl (by decide +kernel) ⟨Nat.le_of_ble_eq_true rfl, Nat.le_of_ble_eq_true rfl⟩) (zPx zB_Y (zY_at hY hS zF_A)) rfl rfl hl.1 rfl (lv_room (Nat.le_of_ble_eq_true rfl)) dX5_refuseEnding_11 ⟨Nat.le_of_ble_eq_true rfl, Nat.le_of_ble_eq_true rfl⟩) hP hS (fun x hx9 => (hnt x hx9).elim) hlocks (fun hN t ht => ⟨(), fun ⟨a, b, h1, h2, h3, h4, h5⟩ => hN ((zin_iff (n := 14) (by decide)).mpr ⟨b, h2, h4⟩), rfl, ht⟩) (Nat.le_of_ble_eq_true rfl) (Nat.le_of_ble_eq_true rfl) (fun H locs hG_11 hP hS => ?_)
  obtain ⟨b9, hb9, rfl⟩ := (zin_iff (n := 14) (by decide)).mp hG_11
  refine lv_iload_n hx hb dX5_refuseEnding_14 rfl (lv_at hl 0 rfl) ?_
  refine lv_iload_n hx hb dX5_refuseEnding_15 rfl (lv_at hl 1 rfl) ?_
  refine lv_icmp_ne (tgt := 34) hx hb dX5_refuseEnding_16 (by decide) (fun c_16 => ?_) (fun c_16 => ?_)
  · skip
    have c_16 : ¬ a = b9 := fun h9 => c_16 ((nI_eq (a := a) (b := b9) (by omega) (by omega)).mpr h9)
    refine vx_ret (mc := 3) (ms := 18) ?_
    refine W.widen (k := 3) (n := 18) (Nat.le_of_ble_eq_true rfl) (Nat.le_of_ble_eq_true rfl) ?_
    exact W.vret hx hb hr (fun t ht hW => ⟨⟨(), rfl, ⟨a, b9, ha, hb9, rfl, rfl, fun h => c_16 h.1⟩, trivial⟩, hS.F ht⟩) hS.2.2 dX5_refuseEnding_34
  · skip
    have c_16 : a = b9 := (nI_eq (a := a) (b := b9) (by omega) (by omega)).mp c_16
    refine lv_iload_n hx hb dX5_refuseEnding_19 rfl (lv_at hl 0 rfl) ?_
    refine zro_i (va_runS (As := [.int (nI a)]) (rest := []) ⟨hx, hb, hml, hown, hts⟩ (c_X4_isShared l a (by omega)) (va_cwS 1 hts gX5_refuseEnding_X4_isShared rfl rfl rfl (by decide +kernel) ⟨Nat.le_of_ble_eq_true rfl, Nat.le_of_ble_eq_true rfl⟩) zPu rfl rfl hl.1 rfl (lv_room (Nat.le_of_ble_eq_true rfl)) dX5_refuseEnding_20 ⟨Nat.le_of_ble_eq_true rfl, Nat.le_of_ble_eq_true rfl⟩) hP hS (fun H locs hP hS => ?_)
    refine lv_if_eq (tgt := 34) hx hb dX5_refuseEnding_23 (by decide) (fun c_23 => ?_) (fun c_23 => ?_)
    · skip
      have c_23 := bI_0.mp c_23
      refine vx_ret (mc := 3) (ms := 18) ?_
      refine W.widen (k := 3) (n := 18) (Nat.le_of_ble_eq_true rfl) (Nat.le_of_ble_eq_true rfl) ?_
      exact W.vret hx hb hr (fun t ht hW => ⟨⟨(), rfl, ⟨a, b9, ha, hb9, rfl, rfl, fun h => by rw [h.2] at c_23; cases c_23⟩, trivial⟩, hS.F ht⟩) hS.2.2 dX5_refuseEnding_34
    · skip
      have c_23 := bI_1.mp c_23
      exact vx_throw0 (cls := "java/lang/IllegalArgumentException") (names := ["java/lang/RuntimeException", "java/lang/Exception"]) (ik := 108) (ic := 110) (A := zF) hx hb hl0 hown (by decide +kernel) (by decide +kernel) (hts (.classLink RX5 108 "java/lang/IllegalArgumentException") (List.mem_of_getElem? (i := 1) rfl)) (hts (.initialized "java/lang/IllegalArgumentException") (List.mem_of_getElem? (i := 2) rfl)) (vx_hat (fun w h => hts w (List.mem_cons_of_mem _ (List.mem_append_right _ h))) (by decide +kernel) (vx_c (va_Nw.use rfl hY.2.2.1) (vx_c (va_Nw.use rfl hY.2.2.2.1) (vx_c (va_Nw.use rfl hY.2.2.2.2.1) (vx_c (va_Nw.use rfl hY.2.2.2.2.2.1) vx_n))))) (by decide +kernel) hY.1 hY.2.1 hS hl9 dX5_refuseEnding_26 dX5_refuseEnding_29 dX5_refuseEnding_30 dX5_refuseEnding_33 (fun x hx9 => (hnt x hx9).elim) (Nat.le_of_ble_eq_true rfl) (Nat.le_of_ble_eq_true rfl) (Nat.le_of_ble_eq_true rfl) (Nat.le_of_ble_eq_true rfl) hlocks (fun t hv hz hk => ⟨(), fun ⟨a9, b8, h1, h2, h3, h4, h5⟩ => h5 ⟨((nI_eq (by omega) (by omega)).mp h3).symm.trans (c_16.trans ((nI_eq (by omega) (by omega)).mp h4)), by rw [← (nI_eq (by omega) (by omega)).mp h3]; exact c_23⟩, rfl, zthx hS hz hk⟩) (fun z hz => (hS.2.2 z hz).elim) (Nat.le_of_ble_eq_true rfl) (Nat.le_of_ble_eq_true rfl)

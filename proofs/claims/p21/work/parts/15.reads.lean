/-! the class reads its game -/
/-- ao, aq: where the side to move and the other one lie -/
def zSd (tn a0 a1 ao aq : Nat) : Prop := (tn = 0 ∧ ao = a0 ∧ aq = a1) ∨ (tn = 1 ∧ ao = a1 ∧ aq = a0)
theorem zSd_o {tn a0 a1 ao aq : Nat} (h : zSd tn a0 a1 ao aq) : (if tn = 0 then a0 else a1) = ao := by
  rcases h with ⟨h1, h2, -⟩ | ⟨h1, h2, -⟩ <;> rw [h1, h2] <;> rfl
theorem zSd_q {tn a0 a1 ao aq : Nat} (h : zSd tn a0 a1 ao aq) : (if 1 - tn = 0 then a0 else a1) = aq := by
  rcases h with ⟨h1, -, h2⟩ | ⟨h1, -, h2⟩ <;> rw [h1, h2] <;> rfl
theorem zSd_le {tn a0 a1 ao aq : Nat} (h : zSd tn a0 a1 ao aq) : tn ≤ 1 := by
  rcases h with ⟨h1, -, -⟩ | ⟨h1, -, -⟩ <;> omega
theorem z_nd {al bl : List Nat} (h : al.Nodup) (is : List Nat) (hn : va_nd is = true) (e : is.map (fun i => al[i]?) = bl.map some) : bl.Nodup := by
  refine List.pairwise_iff_getElem.mpr (fun i j hi hj hij e2 => ?_)
  have hlen : is.length = bl.length := by have := congrArg List.length e; simpa using this
  have f : ∀ x, x < bl.length → ∃ y, is[x]? = some y ∧ al[y]? = bl[x]? := by
    intro x hx
    have h1 : (is.map (fun i => al[i]?))[x]? = (bl.map some)[x]? := by rw [e]
    rw [List.getElem?_map, List.getElem?_map, List.getElem?_eq_getElem (show x < is.length by omega), List.getElem?_eq_getElem hx] at h1
    exact ⟨is[x]'(by omega), List.getElem?_eq_getElem (by omega), by rw [List.getElem?_eq_getElem hx]; exact Option.some.inj h1⟩
  obtain ⟨y1, h1, h2⟩ := f i (by omega)
  obtain ⟨y2, h3, h4⟩ := f j hj
  have h5 : al[y1]? = al[y2]? := by rw [h2, h4, List.getElem?_eq_getElem hi, List.getElem?_eq_getElem hj, e2]
  have h6 : y1 < al.length := by
    rcases Nat.lt_or_ge y1 al.length with h7 | h7
    · exact h7
    · rw [List.getElem?_eq_none h7] at h2
      rw [List.getElem?_eq_getElem (show i < bl.length by omega)] at h2
      cases h2
  have h7 : y1 = y2 := (List.getElem?_inj h6 h).mp h5
  have h8 := va_nd_inj is hn i j y1 h1 (by rw [h7]; exact h3)
  omega
theorem zA_pl {al bl : List Nat} (is : List Nat) (e : is.map (fun i => al[i]?) = bl.map some) : ∀ q, zA bl q → zA al q := by
  intro q hq
  have h1 : some q ∈ bl.map some := List.mem_map_of_mem hq
  rw [← e] at h1
  obtain ⟨i, -, h2⟩ := List.mem_map.mp h1
  exact List.mem_of_getElem? h2
theorem zNum_s (own oth m j : Nat) : zNum own oth m (j + 1) = zNum own oth m j + (if zcm own oth j m = true then 1 else 0) := rfl
theorem zNum_le (own oth m : Nat) : ∀ j, zNum own oth m j ≤ j := by
  intro j
  induction j with
  | zero => exact Nat.le_refl _
  | succ j ih =>
    rw [zNum_s]
    split <;> omega
/-- how many of the first j rank ahead of place pl with worth w -/
def zCB (wb : Nat → Int32) (pl : Nat) (w : Int32) : Nat → Nat
  | 0 => 0
  | j + 1 => zCB wb pl w j + (if w < wb j ∨ (wb j = w ∧ j < pl) then 1 else 0)
theorem zCB_s (wb : Nat → Int32) (pl : Nat) (w : Int32) (j : Nat) : zCB wb pl w (j + 1) = zCB wb pl w j + (if w < wb j ∨ (wb j = w ∧ j < pl) then 1 else 0) := rfl
theorem zmk_ne {mk : Int32} {mm : Nat} (h : zmk mk mm) (c : ¬ mk = -1) : mk = nI mm := by
  rcases h with h | h
  · exact h
  · exact absurd h.1 c
/-- the worth of the position for the side whose turn it is -/
def zWT (k tn : Nat) (wn mk : Int32) (mm d own oth : Nat) : Int32 :=
  if wn = -1 then (if mk = -1 then nI (zV k d own oth) else nI (zBT (zV k d) own oth mm)) else (if wn = nI tn then 1000000000 else 0)
/-- the worth behind the move from j, or none -/
def zWB (k d own oth mm j : Nat) : Int32 := if zcm own oth j mm = true then nI (zBM (zV k d) own oth j mm) else -1
theorem zWB_n {k d own oth mm i : Nat} {g : Nat → Int32} (hg : ∀ j, j < i → g j = zWB k d own oth mm j) (c : zcm own oth i mm = false) : ∀ j, j < i + 1 → upd g i (-1) j = zWB k d own oth mm j := by
  intro j hj
  rcases Nat.lt_or_ge j i with h | h
  · rw [pk_un (by omega)]; exact hg j h
  · rw [show j = i by omega, pk_us, zWB, if_neg (by rw [c]; decide)]
theorem zWB_y {k d own oth mm i : Nat} {g : Nat → Int32} (hg : ∀ j, j < i → g j = zWB k d own oth mm j) (c : zcm own oth i mm = true) : ∀ j, j < i + 1 → upd g i (nI (zBM (zV k d) own oth i mm)) j = zWB k d own oth mm j := by
  intro j hj
  rcases Nat.lt_or_ge j i with h | h
  · rw [pk_un (by omega)]; exact hg j h
  · rw [show j = i by omega, pk_us, zWB, if_pos c]
set_option maxHeartbeats 4000000 in
set_option maxRecDepth 100000 in
theorem c_X5_sideOf (l : Launch) (dC : Nat → ClassId) (dI : Nat → Nat → Nat) (cyI cyJ : ClassId) (ax a0 a1 ae aw : Nat) (pI tI mk wn cnt : Int32) (x9 : Nat) (hx9 : x9 ≤ 1) : Met l yX5_sideOf wsX5_sideOf ({ frames := 0, cells := 0, slots := 0, locals := 0 }) (zPc [.ref ax, .int (nI x9)] (dC, dI) vwCl [(cyI, .int)] [(ax, .inr (2, [.ref a0, .ref a1, .ref ae, .ref aw, .int pI, .int tI, .int mk, .int wn, .int cnt]))] (fun _ => True)) (va_Qr (fun (_ : Unit) => True) (fun _ (r : Nat) _ => r = (if x9 = 0 then a0 else a1)) zF) 0 0 zF := by
  refine Met.ofW (cc := cX5_sideOf) (maxL := 2) (ret := (some (.object "RoyalUrTable$Side"))) (by decide) rfl ?_
  intro p e s m args below meth c s₁ B hml hv
  obtain ⟨rfl, hP, hK, hX⟩ := hv
  have hx := B.exec
  have hb := B.bytes
  have hr := B.returns
  have hts := atoms_spec (ws := wsX5_sideOf) B.pre
  have hown : s.vm.findClass RX5 = some m.cls := findClass_of_methodNamed B.named
  have hlocks := B.notSynchronized
  have hinX5 : ∀ w ∈ wsX50, w ∈ wsX5_sideOf := by decide +kernel
  have hl := lv_entry ([.ref ax, .int (nI x9)]) (n := 2) (Nat.le_of_ble_eq_true rfl)
  rw [lg_entry_eq]
  generalize (lg_sl ([.ref ax, .int (nI x9)]) ++ List.replicate (2 - (lg_sl ([.ref ax, .int (nI x9)])).length) Slot.unset).toArray = ls at hl ⊢
  have hl : lv_has ls 2 [(0, .ref ax), (1, .int (nI x9))] := hl
  have hS : va_S zF s.heap s.heap [] := va_S.rf
  refine lv_iload_n hx hb dX5_sideOf_0 rfl (lv_at hl 1 rfl) ?_
  refine lv_if_ne (tgt := 11) hx hb dX5_sideOf_1 (by decide) (fun c_1 => ?_) (fun c_1 => ?_)
  · skip
    have c_1 : ¬ x9 = 0 := fun h9 => c_1 ((nI_eq (a := x9) (b := 0) (by omega) (by omega)).mpr h9)
    refine lv_aload_n hx hb dX5_sideOf_11 rfl (lv_at hl 0 rfl) ?_
    refine va_get (D := (dC, dI)) (ci := 2) (v := .ref a1) (C := RX5) (T := TX5) (N := 9) hx hb hts hinX5 hown hK hP 0 rfl rfl 1 (by decide) (hts (.fieldLink RX5 16 "RoyalUrTable" "side1" "LRoyalUrTable$Side;") (List.mem_of_getElem? (i := 2) rfl)) (fun _ h9 => h9) rfl dX5_sideOf_12 ?_
    exact W.aret (v := .ref a1) hx hb hr (Or.inl ⟨_, rfl⟩) (Or.inr ⟨_, rfl⟩) (fun t ht hW => ⟨⟨(), _, rfl, trivial, (if_neg c_1).symm⟩, hS.F ht⟩) hS.2.2 dX5_sideOf_15
  · skip
    have c_1 : x9 = 0 := (nI_eq (a := x9) (b := 0) (by omega) (by omega)).mp c_1
    refine lv_aload_n hx hb dX5_sideOf_4 rfl (lv_at hl 0 rfl) ?_
    refine va_get (D := (dC, dI)) (ci := 2) (v := .ref a0) (C := RX5) (T := TX5) (N := 9) hx hb hts hinX5 hown hK hP 0 rfl rfl 0 (by decide) (hts (.fieldLink RX5 10 "RoyalUrTable" "side0" "LRoyalUrTable$Side;") (List.mem_of_getElem? (i := 1) rfl)) (fun _ h9 => h9) rfl dX5_sideOf_5 ?_
    refine lv_goto (tgt := 15) hx hb dX5_sideOf_8 (by decide) ?_
    exact W.aret (v := .ref a0) hx hb hr (Or.inl ⟨_, rfl⟩) (Or.inr ⟨_, rfl⟩) (fun t ht hW => ⟨⟨(), _, rfl, trivial, (if_pos c_1).symm⟩, hS.F ht⟩) hS.2.2 dX5_sideOf_15

set_option maxHeartbeats 4000000 in
set_option maxRecDepth 100000 in
theorem c_X5_canMoveFrom (l : Launch) (dC : Nat → ClassId) (dI : Nat → Nat → Nat) (cyI cyJ : ClassId) (ax a0 a1 ae aw ao aq : Nat) (mk wn cnt lo lq : Int32) (k tn own oth : Nat) (hsd : zSd tn a0 a1 ao aq) (hO : zok k own) (hQ : zok k oth) (mm pl : Nat) (hmk : zmk mk mm) (hmm : mm ≤ 4) (hpl : pl ≤ 14) : Met l yX5_canMoveFrom wsX5_canMoveFrom ({ frames := 2, cells := 0, slots := 0, locals := 48 }) (zPc [.ref ax, .int (nI pl)] (dC, dI) vwCl [(cyI, .int)] [(ax, .inr (2, [.ref a0, .ref a1, .ref ae, .ref aw, .int (nI k), .int (nI tn), .int mk, .int wn, .int cnt])), (ao, .inr (1, [.long (lN own), .int lo])), (aq, .inr (1, [.long (lN oth), .int lq]))] (fun _ => True)) (va_Qi (fun (r : Int32) (_ : Unit) => r = bI (zcm own oth pl mm)) (fun _ _ => True) zF) 0 0 zF := by
  refine Met.ofW (cc := cX5_canMoveFrom) (maxL := 2) (ret := (some .boolean)) (by decide) rfl ?_
  intro p e s m args below meth c s₁ B hml hv
  obtain ⟨rfl, hP, hK, hX⟩ := hv
  have hx := B.exec
  have hb := B.bytes
  have hr := B.returns
  have hts := atoms_spec (ws := wsX5_canMoveFrom) B.pre
  have hown : s.vm.findClass RX5 = some m.cls := findClass_of_methodNamed B.named
  have hlocks := B.notSynchronized
  have hinX3 : ∀ w ∈ wsX30, w ∈ wsX5_canMoveFrom := by decide +kernel
  have hinX5 : ∀ w ∈ wsX50, w ∈ wsX5_canMoveFrom := by decide +kernel
  have hl := lv_entry ([.ref ax, .int (nI pl)]) (n := 2) (Nat.le_of_ble_eq_true rfl)
  rw [lg_entry_eq]
  generalize (lg_sl ([.ref ax, .int (nI pl)]) ++ List.replicate (2 - (lg_sl ([.ref ax, .int (nI pl)])).length) Slot.unset).toArray = ls at hl ⊢
  have hl : lv_has ls 2 [(0, .ref ax), (1, .int (nI pl))] := hl
  have hS : va_S zF s.heap s.heap [] := va_S.rf
  have htn := zSd_le hsd
  refine lv_aload_n hx hb dX5_canMoveFrom_0 rfl (lv_at hl 0 rfl) ?_
  refine lv_aload_n hx hb dX5_canMoveFrom_1 rfl (lv_at hl 0 rfl) ?_
  refine va_get (D := (dC, dI)) (ci := 2) (v := .int (nI tn)) (C := RX5) (T := TX5) (N := 9) hx hb hts hinX5 hown hK hP 0 rfl rfl 5 (by decide) (hts (.fieldLink RX5 59 "RoyalUrTable" "turn" "I") (List.mem_of_getElem? (i := 1) rfl)) (fun _ h9 => h9) rfl dX5_canMoveFrom_2 ?_
  refine zro_r (va_runV (As := [.int (nI tn)]) (rest := []) ⟨hx, hb, hml, hown, hts⟩ (c_X5_sideOf l dC dI cyI cyJ ax a0 a1 ae aw (nI k) (nI tn) mk wn cnt tn (by omega)) (cwV 1 hts gX5_canMoveFrom_X5_sideOf rfl rfl rfl (by decide +kernel) ⟨Nat.le_of_ble_eq_true rfl, Nat.le_of_ble_eq_true rfl⟩) (zPc_V (ci := 2) (q0 := 0) zB_T hP hK rfl rfl [0] rfl (fun _ _ _ => trivial)) rfl rfl hl.1 rfl (lv_room (Nat.le_of_ble_eq_true rfl)) dX5_canMoveFrom_5 ⟨Nat.zero_le _, Nat.zero_le _⟩) hP hS (fun H locs hP hS => ?_)
  refine zz_r (y := ao) (zSd_o hsd) ?_
  refine va_get (D := (dC, dI)) (ci := 1) (v := .long (lN own)) (C := RX3) (T := TX3) (N := 2) hx hb hts hinX3 hown hK hP 1 rfl rfl 0 (by decide) (hts (.fieldLink RX5 70 "RoyalUrTable$Side" "layout" "J") (List.mem_of_getElem? (i := 2) rfl)) (fun _ h9 => h9) rfl dX5_canMoveFrom_8 ?_
  refine lv_aload_n hx hb dX5_canMoveFrom_11 rfl (lv_at hl 0 rfl) ?_
  refine lv_iconst (v := 1) hx hb dX5_canMoveFrom_12 (by decide) ?_
  refine lv_aload_n hx hb dX5_canMoveFrom_13 rfl (lv_at hl 0 rfl) ?_
  refine va_get (D := (dC, dI)) (ci := 2) (v := .int (nI tn)) (C := RX5) (T := TX5) (N := 9) hx hb hts hinX5 hown hK hP 0 rfl rfl 5 (by decide) (hts (.fieldLink RX5 59 "RoyalUrTable" "turn" "I") (List.mem_of_getElem? (i := 1) rfl)) (fun _ h9 => h9) rfl dX5_canMoveFrom_14 ?_
  refine lv_isub hx hb dX5_canMoveFrom_17 ?_
  refine zz_i (y := nI (1 - tn)) (pk_sub (a := 1) (b := tn) (by omega)) ?_
  refine zro_r (va_runV (As := [.int (nI (1 - tn))]) (rest := [.long (lN own)]) ⟨hx, hb, hml, hown, hts⟩ (c_X5_sideOf l dC dI cyI cyJ ax a0 a1 ae aw (nI k) (nI tn) mk wn cnt (1 - tn) (by omega)) (cwV 1 hts gX5_canMoveFrom_X5_sideOf rfl rfl rfl (by decide +kernel) ⟨Nat.le_of_ble_eq_true rfl, Nat.le_of_ble_eq_true rfl⟩) (zPc_V (ci := 2) (q0 := 0) zB_T hP hK rfl rfl [0] rfl (fun _ _ _ => trivial)) rfl rfl hl.1 rfl (lv_room (Nat.le_of_ble_eq_true rfl)) dX5_canMoveFrom_18 ⟨Nat.zero_le _, Nat.zero_le _⟩) hP hS (fun H locs hP hS => ?_)
  refine zz_r (y := aq) (zSd_q hsd) ?_
  refine va_get (D := (dC, dI)) (ci := 1) (v := .long (lN oth)) (C := RX3) (T := TX3) (N := 2) hx hb hts hinX3 hown hK hP 2 rfl rfl 0 (by decide) (hts (.fieldLink RX5 70 "RoyalUrTable$Side" "layout" "J") (List.mem_of_getElem? (i := 2) rfl)) (fun _ h9 => h9) rfl dX5_canMoveFrom_21 ?_
  refine lv_iload_n hx hb dX5_canMoveFrom_24 rfl (lv_at hl 1 rfl) ?_
  refine lv_aload_n hx hb dX5_canMoveFrom_25 rfl (lv_at hl 0 rfl) ?_
  refine va_get (D := (dC, dI)) (ci := 2) (v := .int mk) (C := RX5) (T := TX5) (N := 9) hx hb hts hinX5 hown hK hP 0 rfl rfl 6 (by decide) (hts (.fieldLink RX5 46 "RoyalUrTable" "marksTold" "I") (List.mem_of_getElem? (i := 3) rfl)) (fun _ h9 => h9) rfl dX5_canMoveFrom_26 ?_
  refine zro_i (va_runS (As := [.long (lN own), .long (lN oth), .int (nI pl), .int mk]) (rest := []) ⟨hx, hb, hml, hown, hts⟩ (c_X2_canMove l own oth pl mm mk hO.lt hQ.lt (by omega) hmm hmk) (va_cwS 4 hts gX5_canMoveFrom_X2_canMove rfl rfl rfl (by decide +kernel) ⟨Nat.le_of_ble_eq_true rfl, Nat.le_of_ble_eq_true rfl⟩) zPu rfl rfl hl.1 rfl (lv_room (Nat.le_of_ble_eq_true rfl)) dX5_canMoveFrom_29 ⟨Nat.zero_le _, Nat.zero_le _⟩) hP hS (fun H locs hP hS => ?_)
  exact W.zret (v := bI (zcm own oth pl mm)) hx hb hr (bI_nar _) (fun t ht hW => ⟨⟨_, (), rfl, rfl, trivial⟩, hS.F ht⟩) hS.2.2 dX5_canMoveFrom_32

set_option maxHeartbeats 4000000 in
set_option maxRecDepth 100000 in
theorem c_X5_countMoves (l : Launch) (dC : Nat → ClassId) (dI : Nat → Nat → Nat) (cyI cyJ : ClassId) (ax a0 a1 ae aw ao aq : Nat) (mk wn cnt lo lq : Int32) (k tn own oth : Nat) (hsd : zSd tn a0 a1 ao aq) (hO : zok k own) (hQ : zok k oth) (mm : Nat) (mj : Int32) (hmk : zmk mj mm) (hmm : mm ≤ 4) : Met l yX5_countMoves wsX5_countMoves ({ frames := 2, cells := 0, slots := 0, locals := 48 }) (zPc [.ref ax, .int mj] (dC, dI) vwCl [(cyI, .int)] [(ax, .inr (2, [.ref a0, .ref a1, .ref ae, .ref aw, .int (nI k), .int (nI tn), .int mk, .int wn, .int cnt])), (ao, .inr (1, [.long (lN own), .int lo])), (aq, .inr (1, [.long (lN oth), .int lq]))] (fun _ => True)) (va_Qi (fun (r : Int32) (_ : Unit) => r = nI (zNum own oth mm 15)) (fun _ _ => True) zF) 0 0 zF := by
  refine Met.ofW (cc := cX5_countMoves) (maxL := 8) (ret := (some .int)) (by decide) rfl ?_
  intro p e s m args below meth c s₁ B hml hv
  obtain ⟨rfl, hP, hK, hX⟩ := hv
  have hx := B.exec
  have hb := B.bytes
  have hr := B.returns
  have hts := atoms_spec (ws := wsX5_countMoves) B.pre
  have hown : s.vm.findClass RX5 = some m.cls := findClass_of_methodNamed B.named
  have hlocks := B.notSynchronized
  have hinX3 : ∀ w ∈ wsX30, w ∈ wsX5_countMoves := by decide +kernel
  have hinX5 : ∀ w ∈ wsX50, w ∈ wsX5_countMoves := by decide +kernel
  have hl := lv_entry ([.ref ax, .int mj]) (n := 8) (Nat.le_of_ble_eq_true rfl)
  rw [lg_entry_eq]
  generalize (lg_sl ([.ref ax, .int mj]) ++ List.replicate (8 - (lg_sl ([.ref ax, .int mj])).length) Slot.unset).toArray = ls at hl ⊢
  have hl : lv_has ls 8 [(0, .ref ax), (1, .int mj)] := hl
  have hS : va_S zF s.heap s.heap [] := va_S.rf
  generalize hQe : MQ below _ _ _ _ _ _ = Q
  have htn := zSd_le hsd
  refine lv_aload_n hx hb dX5_countMoves_0 rfl (lv_at hl 0 rfl) ?_
  refine lv_aload_n hx hb dX5_countMoves_1 rfl (lv_at hl 0 rfl) ?_
  refine va_get (D := (dC, dI)) (ci := 2) (v := .int (nI tn)) (C := RX5) (T := TX5) (N := 9) hx hb hts hinX5 hown hK hP 0 rfl rfl 5 (by decide) (hts (.fieldLink RX5 59 "RoyalUrTable" "turn" "I") (List.mem_of_getElem? (i := 1) rfl)) (fun _ h9 => h9) rfl dX5_countMoves_2 ?_
  refine zro_r (va_runV (As := [.int (nI tn)]) (rest := []) ⟨hx, hb, hml, hown, hts⟩ (c_X5_sideOf l dC dI cyI cyJ ax a0 a1 ae aw (nI k) (nI tn) mk wn cnt tn (by omega)) (cwV 1 hts gX5_countMoves_X5_sideOf rfl rfl rfl (by decide +kernel) ⟨Nat.le_of_ble_eq_true rfl, Nat.le_of_ble_eq_true rfl⟩) (zPc_V (ci := 2) (q0 := 0) zB_T hP hK rfl rfl [0] rfl (fun _ _ _ => trivial)) rfl rfl hl.1 rfl (lv_room (Nat.le_of_ble_eq_true rfl)) dX5_countMoves_5 ⟨Nat.zero_le _, Nat.zero_le _⟩) hP hS (fun H locs hP hS => ?_)
  refine zz_r (y := ao) (zSd_o hsd) ?_
  refine va_get (D := (dC, dI)) (ci := 1) (v := .long (lN own)) (C := RX3) (T := TX3) (N := 2) hx hb hts hinX3 hown hK hP 1 rfl rfl 0 (by decide) (hts (.fieldLink RX5 70 "RoyalUrTable$Side" "layout" "J") (List.mem_of_getElem? (i := 2) rfl)) (fun _ h9 => h9) rfl dX5_countMoves_8 ?_
  refine lv_lstore_n (lv' := [(2, .long (lN own)), (0, .ref ax), (1, .int mj)]) hx hb dX5_countMoves_11 rfl hl (by decide) rfl (fun ls hl => ?_)
  refine lv_aload_n hx hb dX5_countMoves_12 rfl (lv_at hl 1 rfl) ?_
  refine lv_iconst (v := 1) hx hb dX5_countMoves_13 (by decide) ?_
  refine lv_aload_n hx hb dX5_countMoves_14 rfl (lv_at hl 1 rfl) ?_
  refine va_get (D := (dC, dI)) (ci := 2) (v := .int (nI tn)) (C := RX5) (T := TX5) (N := 9) hx hb hts hinX5 hown hK hP 0 rfl rfl 5 (by decide) (hts (.fieldLink RX5 59 "RoyalUrTable" "turn" "I") (List.mem_of_getElem? (i := 1) rfl)) (fun _ h9 => h9) rfl dX5_countMoves_15 ?_
  refine lv_isub hx hb dX5_countMoves_18 ?_
  refine zz_i (y := nI (1 - tn)) (pk_sub (a := 1) (b := tn) (by omega)) ?_
  refine zro_r (va_runV (As := [.int (nI (1 - tn))]) (rest := []) ⟨hx, hb, hml, hown, hts⟩ (c_X5_sideOf l dC dI cyI cyJ ax a0 a1 ae aw (nI k) (nI tn) mk wn cnt (1 - tn) (by omega)) (cwV 1 hts gX5_countMoves_X5_sideOf rfl rfl rfl (by decide +kernel) ⟨Nat.le_of_ble_eq_true rfl, Nat.le_of_ble_eq_true rfl⟩) (zPc_V (ci := 2) (q0 := 0) zB_T hP hK rfl rfl [0] rfl (fun _ _ _ => trivial)) rfl rfl hl.1 rfl (lv_room (Nat.le_of_ble_eq_true rfl)) dX5_countMoves_19 ⟨Nat.zero_le _, Nat.zero_le _⟩) hP hS (fun H locs hP hS => ?_)
  refine zz_r (y := aq) (zSd_q hsd) ?_
  refine va_get (D := (dC, dI)) (ci := 1) (v := .long (lN oth)) (C := RX3) (T := TX3) (N := 2) hx hb hts hinX3 hown hK hP 2 rfl rfl 0 (by decide) (hts (.fieldLink RX5 70 "RoyalUrTable$Side" "layout" "J") (List.mem_of_getElem? (i := 2) rfl)) (fun _ h9 => h9) rfl dX5_countMoves_22 ?_
  refine lv_lstore (lv' := [(4, .long (lN oth)), (2, .long (lN own)), (0, .ref ax), (1, .int mj)]) hx hb dX5_countMoves_25 hl (by decide) rfl (fun ls hl => ?_)
  refine lv_iconst (v := 0) hx hb dX5_countMoves_27 (by decide) ?_
  refine lv_istore (lv' := [(6, .int 0), (4, .long (lN oth)), (2, .long (lN own)), (0, .ref ax), (1, .int mj)]) hx hb dX5_countMoves_28 hl (by decide) rfl (fun ls hl => ?_)
  refine lv_iconst (v := 0) hx hb dX5_countMoves_30 (by decide) ?_
  refine lv_istore (lv' := [(7, .int 0), (6, .int 0), (4, .long (lN oth)), (2, .long (lN own)), (0, .ref ax), (1, .int mj)]) hx hb dX5_countMoves_31 hl (by decide) rfl (fun ls hl => ?_)
  have lp : ∀ (n9 : Nat) (i : Nat) (cv : Nat), i ≤ 15 → cv = zNum own oth mm i → 15 - i < n9 → ∀ (H : Heap) (locs : List Loc), va_P (dC, dI) vwCl [(ax, .inr (2, [.ref a0, .ref a1, .ref ae, .ref aw, .int (nI k), .int (nI tn), .int mk, .int wn, .int cnt])), (ao, .inr (1, [.long (lN own), .int lo])), (aq, .inr (1, [.long (lN oth), .int lq]))] H → va_S zF s.heap H locs → ∀ ls : Array Slot, lv_has ls 8 [(7, .int (nI i)), (6, .int (nI cv)), (4, .long (lN oth)), (2, .long (lN own)), (0, .ref ax), (1, .int mj)] → W p l e (headSpec wsX5_countMoves ({ frames := 2, cells := 0, slots := 0, locals := 48 })).room s m ([.ref ax, .int mj] : List Value).toArray below meth c H locs 0 0 Q (F0 m 33 ls []) := by
    intro n9
    induction n9 with
    | zero => intro i cv hi2 hcv hm9; exact absurd hm9 (Nat.not_lt_zero _)
    | succ n9 ih33 =>
      intro i cv hi2 hcv hm9 H locs hP hS ls hl
      refine lv_iload hx hb dX5_countMoves_33 (lv_at hl 0 rfl) ?_
      refine lv_bipush (v := 14) hx hb dX5_countMoves_35 (by decide) ?_
      refine lv_icmp_gt (tgt := 61) hx hb dX5_countMoves_37 (by decide) (fun c_37 => ?_) (fun c_37 => ?_)
      · skip
        have c_37 : 14 < i := (nI_ltI (a := 14) (b := i) (by omega) (by omega)).mp c_37
        refine lv_iload hx hb dX5_countMoves_61 (lv_at hl 1 rfl) ?_
        subst hQe
        exact W.iret (v := nI cv) hx hb hr (fun t ht hW => ⟨⟨_, (), rfl, (by rw [hcv, show i = 15 by omega]), trivial⟩, hS.F ht⟩) hS.2.2 dX5_countMoves_63
      · skip
        have c_37 : ¬ 14 < i := fun h9 => c_37 ((nI_ltI (a := 14) (b := i) (by omega) (by omega)).mpr h9)
        refine lv_lload_n hx hb dX5_countMoves_40 rfl (lv_at hl 3 rfl) ?_
        refine lv_lload hx hb dX5_countMoves_41 (lv_at hl 2 rfl) ?_
        refine lv_iload hx hb dX5_countMoves_43 (lv_at hl 0 rfl) ?_
        refine lv_iload_n hx hb dX5_countMoves_45 rfl (lv_at hl 5 rfl) ?_
        refine zro_i (va_runS (As := [.long (lN own), .long (lN oth), .int (nI i), .int mj]) (rest := []) ⟨hx, hb, hml, hown, hts⟩ (c_X2_canMove l own oth i mm mj hO.lt hQ.lt (by omega) hmm hmk) (va_cwS 4 hts gX5_countMoves_X2_canMove rfl rfl rfl (by decide +kernel) ⟨Nat.le_of_ble_eq_true rfl, Nat.le_of_ble_eq_true rfl⟩) zPu rfl rfl hl.1 rfl (lv_room (Nat.le_of_ble_eq_true rfl)) dX5_countMoves_46 ⟨Nat.zero_le _, Nat.zero_le _⟩) hP hS (fun H locs hP hS => ?_)
        refine lv_if_eq (tgt := 55) hx hb dX5_countMoves_49 (by decide) (fun c_49 => ?_) (fun c_49 => ?_)
        · skip
          have c_49 := bI_0.mp c_49
          refine lv_iinc (v := nI (i + 1)) (lv' := [(7, .int (nI (i + 1))), (6, .int (nI cv)), (4, .long (lN oth)), (2, .long (lN own)), (0, .ref ax), (1, .int mj)]) hx hb dX5_countMoves_55 hl (k := 0) rfl (nI_1 i) (by decide) rfl (fun ls hl => ?_)
          refine lv_goto (tgt := 33) hx hb dX5_countMoves_58 (by decide) ?_
          exact ih33 (i + 1) _ (by omega) (by rw [zNum_s, if_neg (by rw [c_49]; decide), Nat.add_zero]; exact hcv) (by omega) _ _ hP hS _ (lv_sub hl [0, 1, 2, 3, 4, 5] rfl)
        · skip
          have c_49 := bI_1.mp c_49
          refine lv_iinc (v := nI (cv + 1)) (lv' := [(6, .int (nI (cv + 1))), (7, .int (nI i)), (4, .long (lN oth)), (2, .long (lN own)), (0, .ref ax), (1, .int mj)]) hx hb dX5_countMoves_52 hl (k := 1) rfl (nI_1 cv) (by decide) rfl (fun ls hl => ?_)
          refine lv_iinc (v := nI (i + 1)) (lv' := [(7, .int (nI (i + 1))), (6, .int (nI (cv + 1))), (4, .long (lN oth)), (2, .long (lN own)), (0, .ref ax), (1, .int mj)]) hx hb dX5_countMoves_55 hl (k := 1) rfl (nI_1 i) (by decide) rfl (fun ls hl => ?_)
          refine lv_goto (tgt := 33) hx hb dX5_countMoves_58 (by decide) ?_
          exact ih33 (i + 1) _ (by omega) (by rw [zNum_s, if_pos c_49, hcv]) (by omega) _ _ hP hS _ (lv_sub hl [0, 1, 2, 3, 4, 5] rfl)
  exact lp 16 0 0 (by omega) rfl (by omega) _ _ hP hS _ (lv_sub hl [0, 1, 2, 3, 4, 5] rfl)

set_option maxHeartbeats 4000000 in
set_option maxRecDepth 100000 in
theorem c_X5_leadOfTurn (l : Launch) (dC : Nat → ClassId) (dI : Nat → Nat → Nat) (cyI cyJ : ClassId) (ax a0 a1 ae aw ao aq : Nat) (mk wn cnt lo lq : Int32) (k tn own oth : Nat) (hsd : zSd tn a0 a1 ao aq) (hO : zok k own) (hQ : zok k oth) : Met l yX5_leadOfTurn wsX5_leadOfTurn ({ frames := 2, cells := 0, slots := 0, locals := 45 }) (zPc [.ref ax] (dC, dI) vwCl [(cyI, .int)] [(ax, .inr (2, [.ref a0, .ref a1, .ref ae, .ref aw, .int (nI k), .int (nI tn), .int mk, .int wn, .int cnt])), (ao, .inr (1, [.long (lN own), .int lo])), (aq, .inr (1, [.long (lN oth), .int lq]))] (fun _ => True)) (va_Qi (fun (r : Int32) (_ : Unit) => r = zLd own oth) (fun _ _ => True) zF) 0 0 zF := by
  refine Met.ofW (cc := cX5_leadOfTurn) (maxL := 1) (ret := (some .int)) (by decide) rfl ?_
  intro p e s m args below meth c s₁ B hml hv
  obtain ⟨rfl, hP, hK, hX⟩ := hv
  have hx := B.exec
  have hb := B.bytes
  have hr := B.returns
  have hts := atoms_spec (ws := wsX5_leadOfTurn) B.pre
  have hown : s.vm.findClass RX5 = some m.cls := findClass_of_methodNamed B.named
  have hlocks := B.notSynchronized
  have hinX3 : ∀ w ∈ wsX30, w ∈ wsX5_leadOfTurn := by decide +kernel
  have hinX5 : ∀ w ∈ wsX50, w ∈ wsX5_leadOfTurn := by decide +kernel
  have hl := lv_entry ([.ref ax]) (n := 1) (Nat.le_of_ble_eq_true rfl)
  rw [lg_entry_eq]
  generalize (lg_sl ([.ref ax]) ++ List.replicate (1 - (lg_sl ([.ref ax])).length) Slot.unset).toArray = ls at hl ⊢
  have hl : lv_has ls 1 [(0, .ref ax)] := hl
  have hS : va_S zF s.heap s.heap [] := va_S.rf
  have htn := zSd_le hsd
  have hl1 := hO.lt
  have hl2 := hQ.lt
  refine lv_aload_n hx hb dX5_leadOfTurn_0 rfl (lv_at hl 0 rfl) ?_
  refine lv_aload_n hx hb dX5_leadOfTurn_1 rfl (lv_at hl 0 rfl) ?_
  refine va_get (D := (dC, dI)) (ci := 2) (v := .int (nI tn)) (C := RX5) (T := TX5) (N := 9) hx hb hts hinX5 hown hK hP 0 rfl rfl 5 (by decide) (hts (.fieldLink RX5 59 "RoyalUrTable" "turn" "I") (List.mem_of_getElem? (i := 1) rfl)) (fun _ h9 => h9) rfl dX5_leadOfTurn_2 ?_
  refine zro_r (va_runV (As := [.int (nI tn)]) (rest := []) ⟨hx, hb, hml, hown, hts⟩ (c_X5_sideOf l dC dI cyI cyJ ax a0 a1 ae aw (nI k) (nI tn) mk wn cnt tn (by omega)) (cwV 1 hts gX5_leadOfTurn_X5_sideOf rfl rfl rfl (by decide +kernel) ⟨Nat.le_of_ble_eq_true rfl, Nat.le_of_ble_eq_true rfl⟩) (zPc_V (ci := 2) (q0 := 0) zB_T hP hK rfl rfl [0] rfl (fun _ _ _ => trivial)) rfl rfl hl.1 rfl (lv_room (Nat.le_of_ble_eq_true rfl)) dX5_leadOfTurn_5 ⟨Nat.zero_le _, Nat.zero_le _⟩) hP hS (fun H locs hP hS => ?_)
  refine zz_r (y := ao) (zSd_o hsd) ?_
  refine va_get (D := (dC, dI)) (ci := 1) (v := .long (lN own)) (C := RX3) (T := TX3) (N := 2) hx hb hts hinX3 hown hK hP 1 rfl rfl 0 (by decide) (hts (.fieldLink RX5 70 "RoyalUrTable$Side" "layout" "J") (List.mem_of_getElem? (i := 2) rfl)) (fun _ h9 => h9) rfl dX5_leadOfTurn_8 ?_
  refine zro_i (va_runS (As := [.long (lN own)]) (rest := []) ⟨hx, hb, hml, hown, hts⟩ (c_X2_sumOfPlaces l own (by omega)) (va_cwS 1 hts gX5_leadOfTurn_X2_sumOfPlaces rfl rfl rfl (by decide +kernel) ⟨Nat.le_of_ble_eq_true rfl, Nat.le_of_ble_eq_true rfl⟩) zPu rfl rfl hl.1 rfl (lv_room (Nat.le_of_ble_eq_true rfl)) dX5_leadOfTurn_11 ⟨Nat.zero_le _, Nat.zero_le _⟩) hP hS (fun H locs hP hS => ?_)
  refine lv_aload_n hx hb dX5_leadOfTurn_14 rfl (lv_at hl 0 rfl) ?_
  refine lv_iconst (v := 1) hx hb dX5_leadOfTurn_15 (by decide) ?_
  refine lv_aload_n hx hb dX5_leadOfTurn_16 rfl (lv_at hl 0 rfl) ?_
  refine va_get (D := (dC, dI)) (ci := 2) (v := .int (nI tn)) (C := RX5) (T := TX5) (N := 9) hx hb hts hinX5 hown hK hP 0 rfl rfl 5 (by decide) (hts (.fieldLink RX5 59 "RoyalUrTable" "turn" "I") (List.mem_of_getElem? (i := 1) rfl)) (fun _ h9 => h9) rfl dX5_leadOfTurn_17 ?_
  refine lv_isub hx hb dX5_leadOfTurn_20 ?_
  refine zz_i (y := nI (1 - tn)) (pk_sub (a := 1) (b := tn) (by omega)) ?_
  refine zro_r (va_runV (As := [.int (nI (1 - tn))]) (rest := [.int (nI (psum own 16))]) ⟨hx, hb, hml, hown, hts⟩ (c_X5_sideOf l dC dI cyI cyJ ax a0 a1 ae aw (nI k) (nI tn) mk wn cnt (1 - tn) (by omega)) (cwV 1 hts gX5_leadOfTurn_X5_sideOf rfl rfl rfl (by decide +kernel) ⟨Nat.le_of_ble_eq_true rfl, Nat.le_of_ble_eq_true rfl⟩) (zPc_V (ci := 2) (q0 := 0) zB_T hP hK rfl rfl [0] rfl (fun _ _ _ => trivial)) rfl rfl hl.1 rfl (lv_room (Nat.le_of_ble_eq_true rfl)) dX5_leadOfTurn_21 ⟨Nat.zero_le _, Nat.zero_le _⟩) hP hS (fun H locs hP hS => ?_)
  refine zz_r (y := aq) (zSd_q hsd) ?_
  refine va_get (D := (dC, dI)) (ci := 1) (v := .long (lN oth)) (C := RX3) (T := TX3) (N := 2) hx hb hts hinX3 hown hK hP 2 rfl rfl 0 (by decide) (hts (.fieldLink RX5 70 "RoyalUrTable$Side" "layout" "J") (List.mem_of_getElem? (i := 2) rfl)) (fun _ h9 => h9) rfl dX5_leadOfTurn_24 ?_
  refine zro_i (va_runS (As := [.long (lN oth)]) (rest := [.int (nI (psum own 16))]) ⟨hx, hb, hml, hown, hts⟩ (c_X2_sumOfPlaces l oth (by omega)) (va_cwS 1 hts gX5_leadOfTurn_X2_sumOfPlaces rfl rfl rfl (by decide +kernel) ⟨Nat.le_of_ble_eq_true rfl, Nat.le_of_ble_eq_true rfl⟩) zPu rfl rfl hl.1 rfl (lv_room (Nat.le_of_ble_eq_true rfl)) dX5_leadOfTurn_27 ⟨Nat.zero_le _, Nat.zero_le _⟩) hP hS (fun H locs hP hS => ?_)
  refine lv_isub hx hb dX5_leadOfTurn_30 ?_
  exact W.iret (v := (nI (psum own 16)) - (nI (psum oth 16))) hx hb hr (fun t ht hW => ⟨⟨_, (), rfl, rfl, trivial⟩, hS.F ht⟩) hS.2.2 dX5_leadOfTurn_31

set_option maxHeartbeats 4000000 in
set_option maxRecDepth 100000 in
theorem c_X5_countBetter (l : Launch) (dC : Nat → ClassId) (dI : Nat → Nat → Nat) (cyI cyJ : ClassId) (ax a0 a1 ae aw : Nat) (pI tI mk wn cnt : Int32) (wb : Nat → Int32) (pl : Nat) (hpl : pl ≤ 15) (w9 : Int32) : Met l yX5_countBetter wsX5_countBetter ({ frames := 0, cells := 0, slots := 0, locals := 0 }) (zPc [.ref ax, .int (nI pl), .int w9] (dC, dI) vwCl [(cyI, .int)] [(ax, .inr (2, [.ref a0, .ref a1, .ref ae, .ref aw, .int pI, .int tI, .int mk, .int wn, .int cnt])), (aw, .inl (cyI, 15, .inl wb))] (fun _ => True)) (va_Qi (fun (r : Int32) (_ : Unit) => r = nI (zCB wb pl w9 15)) (fun _ _ => True) zF) 0 0 zF := by
  refine Met.ofW (cc := cX5_countBetter) (maxL := 5) (ret := (some .int)) (by decide) rfl ?_
  intro p e s m args below meth c s₁ B hml hv
  obtain ⟨rfl, hP, hK, hX⟩ := hv
  have hx := B.exec
  have hb := B.bytes
  have hr := B.returns
  have hts := atoms_spec (ws := wsX5_countBetter) B.pre
  have hown : s.vm.findClass RX5 = some m.cls := findClass_of_methodNamed B.named
  have hlocks := B.notSynchronized
  have hinX5 : ∀ w ∈ wsX50, w ∈ wsX5_countBetter := by decide +kernel
  have hl := lv_entry ([.ref ax, .int (nI pl), .int w9]) (n := 5) (Nat.le_of_ble_eq_true rfl)
  rw [lg_entry_eq]
  generalize (lg_sl ([.ref ax, .int (nI pl), .int w9]) ++ List.replicate (5 - (lg_sl ([.ref ax, .int (nI pl), .int w9])).length) Slot.unset).toArray = ls at hl ⊢
  have hl : lv_has ls 5 [(0, .ref ax), (1, .int (nI pl)), (2, .int w9)] := hl
  have hS : va_S zF s.heap s.heap [] := va_S.rf
  generalize hQe : MQ below _ _ _ _ _ _ = Q
  refine lv_iconst (v := 0) hx hb dX5_countBetter_0 (by decide) ?_
  refine lv_istore_n (lv' := [(3, .int 0), (0, .ref ax), (1, .int (nI pl)), (2, .int w9)]) hx hb dX5_countBetter_1 rfl hl (by decide) rfl (fun ls hl => ?_)
  refine lv_iconst (v := 0) hx hb dX5_countBetter_2 (by decide) ?_
  refine lv_istore (lv' := [(4, .int 0), (3, .int 0), (0, .ref ax), (1, .int (nI pl)), (2, .int w9)]) hx hb dX5_countBetter_3 hl (by decide) rfl (fun ls hl => ?_)
  have lp : ∀ (n9 : Nat) (i : Nat) (cv : Nat), i ≤ 15 → cv = zCB wb pl w9 i → 15 - i < n9 → ∀ (H : Heap) (locs : List Loc), va_P (dC, dI) vwCl [(ax, .inr (2, [.ref a0, .ref a1, .ref ae, .ref aw, .int pI, .int tI, .int mk, .int wn, .int cnt])), (aw, .inl (cyI, 15, .inl wb))] H → va_S zF s.heap H locs → ∀ ls : Array Slot, lv_has ls 5 [(4, .int (nI i)), (3, .int (nI cv)), (0, .ref ax), (1, .int (nI pl)), (2, .int w9)] → W p l e (headSpec wsX5_countBetter ({ frames := 0, cells := 0, slots := 0, locals := 0 })).room s m ([.ref ax, .int (nI pl), .int w9] : List Value).toArray below meth c H locs 0 0 Q (F0 m 5 ls []) := by
    intro n9
    induction n9 with
    | zero => intro i cv hi2 hcv hm9; exact absurd hm9 (Nat.not_lt_zero _)
    | succ n9 ih5 =>
      intro i cv hi2 hcv hm9 H locs hP hS ls hl
      refine lv_iload hx hb dX5_countBetter_5 (lv_at hl 0 rfl) ?_
      refine lv_aload_n hx hb dX5_countBetter_7 rfl (lv_at hl 2 rfl) ?_
      refine va_get (D := (dC, dI)) (ci := 2) (v := .ref aw) (C := RX5) (T := TX5) (N := 9) hx hb hts hinX5 hown hK hP 0 rfl rfl 3 (by decide) (hts (.fieldLink RX5 28 "RoyalUrTable" "worthsBehind" "[I") (List.mem_of_getElem? (i := 1) rfl)) (fun _ h9 => h9) rfl dX5_countBetter_8 ?_
      refine va_alen (v := 15) hx hb hK hP 1 0 rfl rfl rfl dX5_countBetter_11 ?_
      refine lv_icmp_ge (tgt := 52) hx hb dX5_countBetter_12 (by decide) (fun c_12 => ?_) (fun c_12 => ?_)
      · skip
        have c_12 : 15 ≤ i := (nI_leI (a := 15) (b := i) (by omega) (by omega)).mp c_12
        refine lv_iload_n hx hb dX5_countBetter_52 rfl (lv_at hl 1 rfl) ?_
        subst hQe
        exact W.iret (v := nI cv) hx hb hr (fun t ht hW => ⟨⟨_, (), rfl, (by rw [hcv, show i = 15 by omega]), trivial⟩, hS.F ht⟩) hS.2.2 dX5_countBetter_53
      · skip
        have c_12 : ¬ 15 ≤ i := fun h9 => c_12 ((nI_leI (a := 15) (b := i) (by omega) (by omega)).mpr h9)
        refine lv_aload_n hx hb dX5_countBetter_15 rfl (lv_at hl 2 rfl) ?_
        refine va_get (D := (dC, dI)) (ci := 2) (v := .ref aw) (C := RX5) (T := TX5) (N := 9) hx hb hts hinX5 hown hK hP 0 rfl rfl 3 (by decide) (hts (.fieldLink RX5 28 "RoyalUrTable" "worthsBehind" "[I") (List.mem_of_getElem? (i := 1) rfl)) (fun _ h9 => h9) rfl dX5_countBetter_16 ?_
        refine lv_iload hx hb dX5_countBetter_19 (lv_at hl 0 rfl) ?_
        refine zi_iald hx hb hK hP 1 0 rfl rfl (j := i) rfl (by omega) (by decide) dX5_countBetter_21 ?_
        refine lv_iload_n hx hb dX5_countBetter_22 rfl (lv_at hl 4 rfl) ?_
        refine lv_icmp_gt (tgt := 43) hx hb dX5_countBetter_23 (by decide) (fun c_23 => ?_) (fun c_23 => ?_)
        · skip
          refine lv_iinc (v := nI (cv + 1)) (lv' := [(3, .int (nI (cv + 1))), (4, .int (nI i)), (0, .ref ax), (1, .int (nI pl)), (2, .int w9)]) hx hb dX5_countBetter_43 hl (k := 1) rfl (nI_1 cv) (by decide) rfl (fun ls hl => ?_)
          refine lv_iinc (v := nI (i + 1)) (lv' := [(4, .int (nI (i + 1))), (3, .int (nI (cv + 1))), (0, .ref ax), (1, .int (nI pl)), (2, .int w9)]) hx hb dX5_countBetter_46 hl (k := 1) rfl (nI_1 i) (by decide) rfl (fun ls hl => ?_)
          refine lv_goto (tgt := 5) hx hb dX5_countBetter_49 (by decide) ?_
          exact ih5 (i + 1) _ (by omega) (by rw [zCB_s, if_pos (Or.inl c_23), hcv]) (by omega) _ _ hP hS _ (lv_sub hl [0, 1, 2, 3, 4] rfl)
        · skip
          refine lv_aload_n hx hb dX5_countBetter_26 rfl (lv_at hl 2 rfl) ?_
          refine va_get (D := (dC, dI)) (ci := 2) (v := .ref aw) (C := RX5) (T := TX5) (N := 9) hx hb hts hinX5 hown hK hP 0 rfl rfl 3 (by decide) (hts (.fieldLink RX5 28 "RoyalUrTable" "worthsBehind" "[I") (List.mem_of_getElem? (i := 1) rfl)) (fun _ h9 => h9) rfl dX5_countBetter_27 ?_
          refine lv_iload hx hb dX5_countBetter_30 (lv_at hl 0 rfl) ?_
          refine zi_iald hx hb hK hP 1 0 rfl rfl (j := i) rfl (by omega) (by decide) dX5_countBetter_32 ?_
          refine lv_iload_n hx hb dX5_countBetter_33 rfl (lv_at hl 4 rfl) ?_
          refine lv_icmp_ne (tgt := 46) hx hb dX5_countBetter_34 (by decide) (fun c_34 => ?_) (fun c_34 => ?_)
          · skip
            refine lv_iinc (v := nI (i + 1)) (lv' := [(4, .int (nI (i + 1))), (3, .int (nI cv)), (0, .ref ax), (1, .int (nI pl)), (2, .int w9)]) hx hb dX5_countBetter_46 hl (k := 0) rfl (nI_1 i) (by decide) rfl (fun ls hl => ?_)
            refine lv_goto (tgt := 5) hx hb dX5_countBetter_49 (by decide) ?_
            exact ih5 (i + 1) _ (by omega) (by rw [zCB_s, if_neg (fun h => by rcases h with h | h; exact c_23 h; exact c_34 h.1), Nat.add_zero]; exact hcv) (by omega) _ _ hP hS _ (lv_sub hl [0, 1, 2, 3, 4] rfl)
          · skip
            refine lv_iload hx hb dX5_countBetter_37 (lv_at hl 0 rfl) ?_
            refine lv_iload_n hx hb dX5_countBetter_39 rfl (lv_at hl 3 rfl) ?_
            refine lv_icmp_ge (tgt := 46) hx hb dX5_countBetter_40 (by decide) (fun c_40 => ?_) (fun c_40 => ?_)
            · skip
              have c_40 : pl ≤ i := (nI_leI (a := pl) (b := i) (by omega) (by omega)).mp c_40
              refine lv_iinc (v := nI (i + 1)) (lv' := [(4, .int (nI (i + 1))), (3, .int (nI cv)), (0, .ref ax), (1, .int (nI pl)), (2, .int w9)]) hx hb dX5_countBetter_46 hl (k := 0) rfl (nI_1 i) (by decide) rfl (fun ls hl => ?_)
              refine lv_goto (tgt := 5) hx hb dX5_countBetter_49 (by decide) ?_
              exact ih5 (i + 1) _ (by omega) (by rw [zCB_s, if_neg (fun h => by rcases h with h | h; exact c_23 h; exact absurd h.2 (by omega)), Nat.add_zero]; exact hcv) (by omega) _ _ hP hS _ (lv_sub hl [0, 1, 2, 3, 4] rfl)
            · skip
              have c_40 : ¬ pl ≤ i := fun h9 => c_40 ((nI_leI (a := pl) (b := i) (by omega) (by omega)).mpr h9)
              refine lv_iinc (v := nI (cv + 1)) (lv' := [(3, .int (nI (cv + 1))), (4, .int (nI i)), (0, .ref ax), (1, .int (nI pl)), (2, .int w9)]) hx hb dX5_countBetter_43 hl (k := 1) rfl (nI_1 cv) (by decide) rfl (fun ls hl => ?_)
              refine lv_iinc (v := nI (i + 1)) (lv' := [(4, .int (nI (i + 1))), (3, .int (nI (cv + 1))), (0, .ref ax), (1, .int (nI pl)), (2, .int w9)]) hx hb dX5_countBetter_46 hl (k := 1) rfl (nI_1 i) (by decide) rfl (fun ls hl => ?_)
              refine lv_goto (tgt := 5) hx hb dX5_countBetter_49 (by decide) ?_
              exact ih5 (i + 1) _ (by omega) (by rw [zCB_s, if_pos (Or.inr ⟨c_34, by omega⟩), hcv]) (by omega) _ _ hP hS _ (lv_sub hl [0, 1, 2, 3, 4] rfl)
  exact lp 16 0 0 (by omega) rfl (by omega) _ _ hP hS _ (lv_sub hl [0, 1, 2, 3, 4] rfl)

set_option maxHeartbeats 4000000 in
set_option maxRecDepth 100000 in
theorem c_X5_worthForTurn (l : Launch) (dC : Nat → ClassId) (dI : Nat → Nat → Nat) (cyI cyJ : ClassId) (tb ax a0 a1 ae aw at_ ao aq : Nat) (mk wn cnt lo lq : Int32) (wf : Nat → Int32) (k kk tn own oth mm d : Nat) (hsd : zSd tn a0 a1 ao aq) (hO : zok k own) (hQ : zok k oth) (hk1 : 1 ≤ k) (hkk : kk ≤ 60) (htb : zTb kk wf) (hmk : zmk mk mm) (hmm : mm ≤ 4) (hd : d ≤ 3) (hnd : [ax, ao, aq, ae, at_].Nodup) : Met l yX5_worthForTurn wsX5_worthForTurn ({ frames := 20, cells := 0, slots := 0, locals := 600 }) (zPc [.ref ax, .int (nI d)] (dC, dI) vwCl [(cyI, .int)] [(ax, .inr (2, [.ref a0, .ref a1, .ref ae, .ref aw, .int (nI k), .int (nI tn), .int mk, .int wn, .int cnt])), (ao, .inr (1, [.long (lN own), .int lo])), (aq, .inr (1, [.long (lN oth), .int lq])), (ae, .inr (0, [.ref at_, .int (nI kk)])), (at_, .inl (cyI, 13500, .inl wf))] (fun U => zX tb (zA [ax, ao, aq, ae, at_]) U U.heap)) (va_Qi (fun (r : Int32) u => r = zWT k tn wn mk mm d own oth ∧ zTb u.1 u.2 ∧ u.1 ≤ 60) (fun (u : Nat × (Nat → Int32)) t => va_P (dC, dI) vwCl ([(ax, .inr (2, [.ref a0, .ref a1, .ref ae, .ref aw, .int (nI k), .int (nI tn), .int mk, .int wn, .int cnt])), (ao, .inr (1, [.long (lN own), .int lo])), (aq, .inr (1, [.long (lN oth), .int lq])), (ae, .inr (0, [.ref at_, .int (nI u.1)])), (at_, .inl (cyI, 13500, .inl u.2))]) t.heap) (zA [ax, ao, aq, ae, at_])) 0 0 (zA [ax, ao, aq, ae, at_]) := by
  refine Met.ofW (cc := cX5_worthForTurn) (maxL := 6) (ret := (some .int)) (by decide) rfl ?_
  intro p e s m args below meth c s₁ B hml hv
  obtain ⟨rfl, hP, hK, hX⟩ := hv
  have hx := B.exec
  have hb := B.bytes
  have hr := B.returns
  have hts := atoms_spec (ws := wsX5_worthForTurn) B.pre
  have hown : s.vm.findClass RX5 = some m.cls := findClass_of_methodNamed B.named
  have hlocks := B.notSynchronized
  have hinX3 : ∀ w ∈ wsX30, w ∈ wsX5_worthForTurn := by decide +kernel
  have hinX5 : ∀ w ∈ wsX50, w ∈ wsX5_worthForTurn := by decide +kernel
  have hl := lv_entry ([.ref ax, .int (nI d)]) (n := 6) (Nat.le_of_ble_eq_true rfl)
  rw [lg_entry_eq]
  generalize (lg_sl ([.ref ax, .int (nI d)]) ++ List.replicate (6 - (lg_sl ([.ref ax, .int (nI d)])).length) Slot.unset).toArray = ls at hl ⊢
  have hl : lv_has ls 6 [(0, .ref ax), (1, .int (nI d))] := hl
  have hS : va_S (zA [ax, ao, aq, ae, at_]) s.heap s.heap [] := va_S.rf
  have hDD : zD (zA [ax, ao, aq, ae, at_]) [ax, ao, aq, ae, at_] := ⟨hnd, fun _ h => h⟩
  have htn := zSd_le hsd
  refine lv_aload_n hx hb dX5_worthForTurn_0 rfl (lv_at hl 0 rfl) ?_
  refine va_get (D := (dC, dI)) (ci := 2) (v := .int wn) (C := RX5) (T := TX5) (N := 9) hx hb hts hinX5 hown hK hP 0 rfl rfl 7 (by decide) (hts (.fieldLink RX5 42 "RoyalUrTable" "winner" "I") (List.mem_of_getElem? (i := 1) rfl)) (fun _ h9 => h9) rfl dX5_worthForTurn_1 ?_
  refine lv_iconst (v := -1) hx hb dX5_worthForTurn_4 (by decide) ?_
  refine lv_icmp_eq (tgt := 26) hx hb dX5_worthForTurn_5 (by decide) (fun c_5 => ?_) (fun c_5 => ?_)
  · skip
    refine lv_aload_n hx hb dX5_worthForTurn_26 rfl (lv_at hl 0 rfl) ?_
    refine va_get (D := (dC, dI)) (ci := 2) (v := .ref ae) (C := RX5) (T := TX5) (N := 9) hx hb hts hinX5 hown hK hP 0 rfl rfl 2 (by decide) (hts (.fieldLink RX5 22 "RoyalUrTable" "endings" "LRoyalUrTable$Endings;") (List.mem_of_getElem? (i := 4) rfl)) (fun _ h9 => h9) rfl dX5_worthForTurn_27 ?_
    refine lv_bipush (v := 40) hx hb dX5_worthForTurn_30 (by decide) ?_
    refine zrw_v (w1 := fun u : Nat × (Nat → Int32) => [(ae, .inr (0, [.ref at_, .int (nI u.1)])), (at_, .inl (cyI, 13500, .inl u.2))]) (al := [ae, at_]) (va_runV (As := [.int 40]) (rest := []) ⟨hx, hb, hml, hown, hts⟩ (c_X1_fillUpTo l dC dI cyI cyJ tb ae at_ wf kk 40 hkk (by omega) htb (z_nd hDD.1 [3, 4] (by decide) rfl)) (cwV 1 hts gX5_worthForTurn_X1_fillUpTo rfl rfl rfl (by decide +kernel) ⟨(show 5 + 1 ≤ 20 by omega), (show 8 + (4 + 11) + 129 ≤ 600 by omega)⟩) (zPc_V (ci := 0) (q0 := 3) zB_X hP hK rfl rfl [3, 4] rfl (zX_at hX hS (zA_pl (al := [ax, ao, aq, ae, at_]) (bl := [ae, at_]) [3, 4] rfl))) rfl rfl hl.1 rfl (lv_room (Nat.le_of_ble_eq_true rfl)) dX5_worthForTurn_32 ⟨Nat.zero_le _, Nat.zero_le _⟩) hP hDD hS [3, 4] rfl (fun _ => rfl) (fun u_32 H locs hw_32 hP hS => ?_)
    have hP : va_P (dC, dI) vwCl [(ax, .inr (2, [.ref a0, .ref a1, .ref ae, .ref aw, .int (nI k), .int (nI tn), .int mk, .int wn, .int cnt])), (ao, .inr (1, [.long (lN own), .int lo])), (aq, .inr (1, [.long (lN oth), .int lq])), (ae, .inr (0, [.ref at_, .int (nI u_32.1)])), (at_, .inl (cyI, 13500, .inl u_32.2))] H := hP
    refine lv_aload_n hx hb dX5_worthForTurn_35 rfl (lv_at hl 0 rfl) ?_
    refine lv_aload_n hx hb dX5_worthForTurn_36 rfl (lv_at hl 0 rfl) ?_
    refine va_get (D := (dC, dI)) (ci := 2) (v := .int (nI tn)) (C := RX5) (T := TX5) (N := 9) hx hb hts hinX5 hown hK hP 0 rfl rfl 5 (by decide) (hts (.fieldLink RX5 59 "RoyalUrTable" "turn" "I") (List.mem_of_getElem? (i := 2) rfl)) (fun _ h9 => h9) rfl dX5_worthForTurn_37 ?_
    refine zro_r (va_runV (As := [.int (nI tn)]) (rest := []) ⟨hx, hb, hml, hown, hts⟩ (c_X5_sideOf l dC dI cyI cyJ ax a0 a1 ae aw (nI k) (nI tn) mk wn cnt tn (by omega)) (cwV 1 hts gX5_worthForTurn_X5_sideOf rfl rfl rfl (by decide +kernel) ⟨(show 0 + 1 ≤ 20 by omega), (show 8 + (2 + 11) + 0 ≤ 600 by omega)⟩) (zPc_V (ci := 2) (q0 := 0) zB_T hP hK rfl rfl [0] rfl (fun _ _ _ => trivial)) rfl rfl hl.1 rfl (lv_room (Nat.le_of_ble_eq_true rfl)) dX5_worthForTurn_40 ⟨Nat.zero_le _, Nat.zero_le _⟩) hP hS (fun H locs hP hS => ?_)
    refine zz_r (y := ao) (zSd_o hsd) ?_
    refine va_get (D := (dC, dI)) (ci := 1) (v := .long (lN own)) (C := RX3) (T := TX3) (N := 2) hx hb hts hinX3 hown hK hP 1 rfl rfl 0 (by decide) (hts (.fieldLink RX5 70 "RoyalUrTable$Side" "layout" "J") (List.mem_of_getElem? (i := 5) rfl)) (fun _ h9 => h9) rfl dX5_worthForTurn_43 ?_
    refine lv_lstore_n (lv' := [(2, .long (lN own)), (0, .ref ax), (1, .int (nI d))]) hx hb dX5_worthForTurn_46 rfl hl (by decide) rfl (fun ls hl => ?_)
    refine lv_aload_n hx hb dX5_worthForTurn_47 rfl (lv_at hl 1 rfl) ?_
    refine lv_iconst (v := 1) hx hb dX5_worthForTurn_48 (by decide) ?_
    refine lv_aload_n hx hb dX5_worthForTurn_49 rfl (lv_at hl 1 rfl) ?_
    refine va_get (D := (dC, dI)) (ci := 2) (v := .int (nI tn)) (C := RX5) (T := TX5) (N := 9) hx hb hts hinX5 hown hK hP 0 rfl rfl 5 (by decide) (hts (.fieldLink RX5 59 "RoyalUrTable" "turn" "I") (List.mem_of_getElem? (i := 2) rfl)) (fun _ h9 => h9) rfl dX5_worthForTurn_50 ?_
    refine lv_isub hx hb dX5_worthForTurn_53 ?_
    refine zz_i (y := nI (1 - tn)) (pk_sub (a := 1) (b := tn) (by omega)) ?_
    refine zro_r (va_runV (As := [.int (nI (1 - tn))]) (rest := []) ⟨hx, hb, hml, hown, hts⟩ (c_X5_sideOf l dC dI cyI cyJ ax a0 a1 ae aw (nI k) (nI tn) mk wn cnt (1 - tn) (by omega)) (cwV 1 hts gX5_worthForTurn_X5_sideOf rfl rfl rfl (by decide +kernel) ⟨(show 0 + 1 ≤ 20 by omega), (show 8 + (2 + 11) + 0 ≤ 600 by omega)⟩) (zPc_V (ci := 2) (q0 := 0) zB_T hP hK rfl rfl [0] rfl (fun _ _ _ => trivial)) rfl rfl hl.1 rfl (lv_room (Nat.le_of_ble_eq_true rfl)) dX5_worthForTurn_54 ⟨Nat.zero_le _, Nat.zero_le _⟩) hP hS (fun H locs hP hS => ?_)
    refine zz_r (y := aq) (zSd_q hsd) ?_
    refine va_get (D := (dC, dI)) (ci := 1) (v := .long (lN oth)) (C := RX3) (T := TX3) (N := 2) hx hb hts hinX3 hown hK hP 2 rfl rfl 0 (by decide) (hts (.fieldLink RX5 70 "RoyalUrTable$Side" "layout" "J") (List.mem_of_getElem? (i := 5) rfl)) (fun _ h9 => h9) rfl dX5_worthForTurn_57 ?_
    refine lv_lstore (lv' := [(4, .long (lN oth)), (2, .long (lN own)), (0, .ref ax), (1, .int (nI d))]) hx hb dX5_worthForTurn_60 hl (by decide) rfl (fun ls hl => ?_)
    refine lv_aload_n hx hb dX5_worthForTurn_62 rfl (lv_at hl 2 rfl) ?_
    refine va_get (D := (dC, dI)) (ci := 2) (v := .int mk) (C := RX5) (T := TX5) (N := 9) hx hb hts hinX5 hown hK hP 0 rfl rfl 6 (by decide) (hts (.fieldLink RX5 46 "RoyalUrTable" "marksTold" "I") (List.mem_of_getElem? (i := 6) rfl)) (fun _ h9 => h9) rfl dX5_worthForTurn_63 ?_
    refine lv_iconst (v := -1) hx hb dX5_worthForTurn_66 (by decide) ?_
    refine lv_icmp_ne (tgt := 83) hx hb dX5_worthForTurn_67 (by decide) (fun c_67 => ?_) (fun c_67 => ?_)
    · skip
      refine lv_aload_n hx hb dX5_worthForTurn_83 rfl (lv_at hl 2 rfl) ?_
      refine lv_lload_n hx hb dX5_worthForTurn_84 rfl (lv_at hl 1 rfl) ?_
      refine lv_lload hx hb dX5_worthForTurn_85 (lv_at hl 0 rfl) ?_
      refine lv_aload_n hx hb dX5_worthForTurn_87 rfl (lv_at hl 2 rfl) ?_
      refine zro_i (va_runV (As := []) (rest := [.long (lN oth), .long (lN own), .ref ax]) ⟨hx, hb, hml, hown, hts⟩ (c_X5_leadOfTurn l dC dI cyI cyJ ax a0 a1 ae aw ao aq mk wn cnt lo lq k tn own oth hsd hO hQ) (cwV 0 hts gX5_worthForTurn_X5_leadOfTurn rfl rfl rfl (by decide +kernel) ⟨(show 2 + 1 ≤ 20 by omega), (show 8 + (1 + 11) + 45 ≤ 600 by omega)⟩) (zPc_V (ci := 2) (q0 := 0) zB_T hP hK rfl rfl [0, 1, 2] rfl (fun _ _ _ => trivial)) rfl rfl hl.1 rfl (lv_room (Nat.le_of_ble_eq_true rfl)) dX5_worthForTurn_88 ⟨Nat.zero_le _, Nat.zero_le _⟩) hP hS (fun H locs hP hS => ?_)
      refine lv_aload_n hx hb dX5_worthForTurn_91 rfl (lv_at hl 2 rfl) ?_
      refine va_get (D := (dC, dI)) (ci := 2) (v := .int mk) (C := RX5) (T := TX5) (N := 9) hx hb hts hinX5 hown hK hP 0 rfl rfl 6 (by decide) (hts (.fieldLink RX5 46 "RoyalUrTable" "marksTold" "I") (List.mem_of_getElem? (i := 6) rfl)) (fun _ h9 => h9) rfl dX5_worthForTurn_92 ?_
      refine zz_i (y := nI mm) (zmk_ne hmk c_67) ?_
      refine lv_iload_n hx hb dX5_worthForTurn_95 rfl (lv_at hl 3 rfl) ?_
      refine zro_i (va_runV (As := [.long (lN own), .long (lN oth), .int (zLd own oth), .int (nI mm), .int (nI d)]) (rest := []) ⟨hx, hb, hml, hown, hts⟩ (c_X5_worthBehindThrow l dC dI cyI cyJ tb ax a0 a1 ae aw at_ (nI tn) mk wn cnt (nI u_32.1) u_32.2 k u_32.1 hk1 hw_32.2.2 hw_32.2.1 hw_32.1 d (by omega) own oth mm hO hQ (by omega)) (cwV 5 hts gX5_worthForTurn_X5_worthBehindThrow rfl rfl rfl (by decide +kernel) ⟨(show (3 * d + 8) + 1 ≤ 20 by omega), (show 8 + (10 + 11) + (92 * d + 263) ≤ 600 by omega)⟩) (zPc_V (ci := 2) (q0 := 0) zB_X hP hK rfl rfl [0, 3, 4] rfl (zX_at hX hS zF_A)) rfl rfl hl.1 rfl (lv_room (Nat.le_of_ble_eq_true rfl)) dX5_worthForTurn_96 ⟨Nat.zero_le _, Nat.zero_le _⟩) hP hS (fun H locs hP hS => ?_)
      exact W.iret (v := nI (zBT (zV k d) own oth mm)) hx hb hr (fun t ht hW => ⟨⟨_, u_32, rfl, ⟨(by rw [zWT, if_pos c_5, if_neg c_67]), hw_32.1, hw_32.2.2⟩, zh ht hP⟩, hS.F ht⟩) hS.2.2 dX5_worthForTurn_99
    · skip
      refine lv_aload_n hx hb dX5_worthForTurn_70 rfl (lv_at hl 2 rfl) ?_
      refine lv_lload_n hx hb dX5_worthForTurn_71 rfl (lv_at hl 1 rfl) ?_
      refine lv_lload hx hb dX5_worthForTurn_72 (lv_at hl 0 rfl) ?_
      refine lv_aload_n hx hb dX5_worthForTurn_74 rfl (lv_at hl 2 rfl) ?_
      refine zro_i (va_runV (As := []) (rest := [.long (lN oth), .long (lN own), .ref ax]) ⟨hx, hb, hml, hown, hts⟩ (c_X5_leadOfTurn l dC dI cyI cyJ ax a0 a1 ae aw ao aq mk wn cnt lo lq k tn own oth hsd hO hQ) (cwV 0 hts gX5_worthForTurn_X5_leadOfTurn rfl rfl rfl (by decide +kernel) ⟨(show 2 + 1 ≤ 20 by omega), (show 8 + (1 + 11) + 45 ≤ 600 by omega)⟩) (zPc_V (ci := 2) (q0 := 0) zB_T hP hK rfl rfl [0, 1, 2] rfl (fun _ _ _ => trivial)) rfl rfl hl.1 rfl (lv_room (Nat.le_of_ble_eq_true rfl)) dX5_worthForTurn_75 ⟨Nat.zero_le _, Nat.zero_le _⟩) hP hS (fun H locs hP hS => ?_)
      refine lv_iload_n hx hb dX5_worthForTurn_78 rfl (lv_at hl 3 rfl) ?_
      refine zro_i (va_runV (As := [.long (lN own), .long (lN oth), .int (zLd own oth), .int (nI d)]) (rest := []) ⟨hx, hb, hml, hown, hts⟩ (c_X5_worthToThrow l dC dI cyI cyJ tb ax a0 a1 ae aw at_ (nI tn) mk wn cnt (nI u_32.1) u_32.2 k u_32.1 hk1 hw_32.2.2 hw_32.2.1 hw_32.1 d (by omega) own oth hO hQ) (cwV 4 hts gX5_worthForTurn_X5_worthToThrow rfl rfl rfl (by decide +kernel) ⟨(show (3 * d + 6) + 1 ≤ 20 by omega), (show 8 + (10 + 11) + (92 * d + 200) ≤ 600 by omega)⟩) (zPc_V (ci := 2) (q0 := 0) zB_X hP hK rfl rfl [0, 3, 4] rfl (zX_at hX hS zF_A)) rfl rfl hl.1 rfl (lv_room (Nat.le_of_ble_eq_true rfl)) dX5_worthForTurn_79 ⟨Nat.zero_le _, Nat.zero_le _⟩) hP hS (fun H locs hP hS => ?_)
      exact W.iret (v := nI (zV k d own oth)) hx hb hr (fun t ht hW => ⟨⟨_, u_32, rfl, ⟨(by rw [zWT, if_pos c_5, if_pos c_67]), hw_32.1, hw_32.2.2⟩, zh ht hP⟩, hS.F ht⟩) hS.2.2 dX5_worthForTurn_82
  · skip
    refine lv_aload_n hx hb dX5_worthForTurn_8 rfl (lv_at hl 0 rfl) ?_
    refine va_get (D := (dC, dI)) (ci := 2) (v := .int wn) (C := RX5) (T := TX5) (N := 9) hx hb hts hinX5 hown hK hP 0 rfl rfl 7 (by decide) (hts (.fieldLink RX5 42 "RoyalUrTable" "winner" "I") (List.mem_of_getElem? (i := 1) rfl)) (fun _ h9 => h9) rfl dX5_worthForTurn_9 ?_
    refine lv_aload_n hx hb dX5_worthForTurn_12 rfl (lv_at hl 0 rfl) ?_
    refine va_get (D := (dC, dI)) (ci := 2) (v := .int (nI tn)) (C := RX5) (T := TX5) (N := 9) hx hb hts hinX5 hown hK hP 0 rfl rfl 5 (by decide) (hts (.fieldLink RX5 59 "RoyalUrTable" "turn" "I") (List.mem_of_getElem? (i := 2) rfl)) (fun _ h9 => h9) rfl dX5_worthForTurn_13 ?_
    refine lv_icmp_ne (tgt := 24) hx hb dX5_worthForTurn_16 (by decide) (fun c_16 => ?_) (fun c_16 => ?_)
    · skip
      refine lv_iconst (v := 0) hx hb dX5_worthForTurn_24 (by decide) ?_
      exact W.iret (v := 0) hx hb hr (fun t ht hW => ⟨⟨_, (kk, wf), rfl, ⟨(by rw [zWT, if_neg c_5, if_neg c_16]), htb, hkk⟩, zh ht hP⟩, hS.F ht⟩) hS.2.2 dX5_worthForTurn_25
    · skip
      refine lv_ldc (v := 1000000000) hx hb hown (hts (.constant RX5 105 (1000000000)) (List.mem_of_getElem? (i := 3) rfl)) dX5_worthForTurn_19 ?_
      refine lv_goto (tgt := 25) hx hb dX5_worthForTurn_21 (by decide) ?_
      exact W.iret (v := 1000000000) hx hb hr (fun t ht hW => ⟨⟨_, (kk, wf), rfl, ⟨(by rw [zWT, if_neg c_5, if_pos c_16]), htb, hkk⟩, zh ht hP⟩, hS.F ht⟩) hS.2.2 dX5_worthForTurn_25

set_option maxHeartbeats 4000000 in
set_option maxRecDepth 100000 in
theorem c_X5_noteWorthsBehind (l : Launch) (dC : Nat → ClassId) (dI : Nat → Nat → Nat) (cyI cyJ : ClassId) (tb ax a0 a1 ae aw at_ ao aq : Nat) (mk wn cnt lo lq : Int32) (wf wb : Nat → Int32) (k kk tn own oth mm d : Nat) (hsd : zSd tn a0 a1 ao aq) (hO : zok k own) (hQ : zok k oth) (hk1 : 1 ≤ k) (hkk : kk ≤ 60) (htb : zTb kk wf) (hmk : zmk mk mm) (hmm : mm ≤ 4) (hd : d ≤ 3) (hnd : [ax, ao, aq, ae, at_, aw].Nodup) : Met l yX5_noteWorthsBehind wsX5_noteWorthsBehind ({ frames := 20, cells := 0, slots := 0, locals := 600 }) (zPc [.ref ax, .int (nI d)] (dC, dI) vwCl [(cyI, .int)] [(ax, .inr (2, [.ref a0, .ref a1, .ref ae, .ref aw, .int (nI k), .int (nI tn), .int mk, .int wn, .int cnt])), (ao, .inr (1, [.long (lN own), .int lo])), (aq, .inr (1, [.long (lN oth), .int lq])), (ae, .inr (0, [.ref at_, .int (nI kk)])), (at_, .inl (cyI, 13500, .inl wf)), (aw, .inl (cyI, 15, .inl wb))] (fun U => zX tb (zA [ax, ao, aq, ae, at_, aw]) U U.heap)) (va_Qv (fun u => zTb u.1 u.2.1 ∧ u.1 ≤ 60 ∧ ∀ j, j < 15 → u.2.2 j = zWB k d own oth mm j) (fun (u : Nat × (Nat → Int32) × (Nat → Int32)) t => va_P (dC, dI) vwCl ([(ax, .inr (2, [.ref a0, .ref a1, .ref ae, .ref aw, .int (nI k), .int (nI tn), .int mk, .int wn, .int cnt])), (ao, .inr (1, [.long (lN own), .int lo])), (aq, .inr (1, [.long (lN oth), .int lq])), (ae, .inr (0, [.ref at_, .int (nI u.1)])), (at_, .inl (cyI, 13500, .inl u.2.1)), (aw, .inl (cyI, 15, .inl u.2.2))]) t.heap) (zA [ax, ao, aq, ae, at_, aw])) 0 0 (zA [ax, ao, aq, ae, at_, aw]) := by
  refine Met.ofW (cc := cX5_noteWorthsBehind) (maxL := 8) (ret := none) (by decide) rfl ?_
  intro p e s m args below meth c s₁ B hml hv
  obtain ⟨rfl, hP, hK, hX⟩ := hv
  have hx := B.exec
  have hb := B.bytes
  have hr := B.returns
  have hts := atoms_spec (ws := wsX5_noteWorthsBehind) B.pre
  have hown : s.vm.findClass RX5 = some m.cls := findClass_of_methodNamed B.named
  have hlocks := B.notSynchronized
  have hinX3 : ∀ w ∈ wsX30, w ∈ wsX5_noteWorthsBehind := by decide +kernel
  have hinX5 : ∀ w ∈ wsX50, w ∈ wsX5_noteWorthsBehind := by decide +kernel
  have hl := lv_entry ([.ref ax, .int (nI d)]) (n := 8) (Nat.le_of_ble_eq_true rfl)
  rw [lg_entry_eq]
  generalize (lg_sl ([.ref ax, .int (nI d)]) ++ List.replicate (8 - (lg_sl ([.ref ax, .int (nI d)])).length) Slot.unset).toArray = ls at hl ⊢
  have hl : lv_has ls 8 [(0, .ref ax), (1, .int (nI d))] := hl
  have hS : va_S (zA [ax, ao, aq, ae, at_, aw]) s.heap s.heap [] := va_S.rf
  have hDD : zD (zA [ax, ao, aq, ae, at_, aw]) [ax, ao, aq, ae, at_, aw] := ⟨hnd, fun _ h => h⟩
  generalize hQe : MQ below _ _ _ _ _ _ = Q
  have htn := zSd_le hsd
  refine lv_aload_n hx hb dX5_noteWorthsBehind_0 rfl (lv_at hl 0 rfl) ?_
  refine va_get (D := (dC, dI)) (ci := 2) (v := .ref ae) (C := RX5) (T := TX5) (N := 9) hx hb hts hinX5 hown hK hP 0 rfl rfl 2 (by decide) (hts (.fieldLink RX5 22 "RoyalUrTable" "endings" "LRoyalUrTable$Endings;") (List.mem_of_getElem? (i := 1) rfl)) (fun _ h9 => h9) rfl dX5_noteWorthsBehind_1 ?_
  refine lv_bipush (v := 40) hx hb dX5_noteWorthsBehind_4 (by decide) ?_
  refine zrw_v (w1 := fun u : Nat × (Nat → Int32) => [(ae, .inr (0, [.ref at_, .int (nI u.1)])), (at_, .inl (cyI, 13500, .inl u.2))]) (al := [ae, at_]) (va_runV (As := [.int 40]) (rest := []) ⟨hx, hb, hml, hown, hts⟩ (c_X1_fillUpTo l dC dI cyI cyJ tb ae at_ wf kk 40 hkk (by omega) htb (z_nd hDD.1 [3, 4] (by decide) rfl)) (cwV 1 hts gX5_noteWorthsBehind_X1_fillUpTo rfl rfl rfl (by decide +kernel) ⟨(show 5 + 1 ≤ 20 by omega), (show 8 + (4 + 11) + 129 ≤ 600 by omega)⟩) (zPc_V (ci := 0) (q0 := 3) zB_X hP hK rfl rfl [3, 4] rfl (zX_at hX hS (zA_pl (al := [ax, ao, aq, ae, at_, aw]) (bl := [ae, at_]) [3, 4] rfl))) rfl rfl hl.1 rfl (lv_room (Nat.le_of_ble_eq_true rfl)) dX5_noteWorthsBehind_6 ⟨Nat.zero_le _, Nat.zero_le _⟩) hP hDD hS [3, 4] rfl (fun _ => rfl) (fun u_6 H locs hw_6 hP hS => ?_)
  have hP : va_P (dC, dI) vwCl [(ax, .inr (2, [.ref a0, .ref a1, .ref ae, .ref aw, .int (nI k), .int (nI tn), .int mk, .int wn, .int cnt])), (ao, .inr (1, [.long (lN own), .int lo])), (aq, .inr (1, [.long (lN oth), .int lq])), (ae, .inr (0, [.ref at_, .int (nI u_6.1)])), (at_, .inl (cyI, 13500, .inl u_6.2)), (aw, .inl (cyI, 15, .inl wb))] H := hP
  refine lv_aload_n hx hb dX5_noteWorthsBehind_9 rfl (lv_at hl 0 rfl) ?_
  refine lv_aload_n hx hb dX5_noteWorthsBehind_10 rfl (lv_at hl 0 rfl) ?_
  refine va_get (D := (dC, dI)) (ci := 2) (v := .int (nI tn)) (C := RX5) (T := TX5) (N := 9) hx hb hts hinX5 hown hK hP 0 rfl rfl 5 (by decide) (hts (.fieldLink RX5 59 "RoyalUrTable" "turn" "I") (List.mem_of_getElem? (i := 2) rfl)) (fun _ h9 => h9) rfl dX5_noteWorthsBehind_11 ?_
  refine zro_r (va_runV (As := [.int (nI tn)]) (rest := []) ⟨hx, hb, hml, hown, hts⟩ (c_X5_sideOf l dC dI cyI cyJ ax a0 a1 ae aw (nI k) (nI tn) mk wn cnt tn (by omega)) (cwV 1 hts gX5_noteWorthsBehind_X5_sideOf rfl rfl rfl (by decide +kernel) ⟨(show 0 + 1 ≤ 20 by omega), (show 8 + (2 + 11) + 0 ≤ 600 by omega)⟩) (zPc_V (ci := 2) (q0 := 0) zB_T hP hK rfl rfl [0] rfl (fun _ _ _ => trivial)) rfl rfl hl.1 rfl (lv_room (Nat.le_of_ble_eq_true rfl)) dX5_noteWorthsBehind_14 ⟨Nat.zero_le _, Nat.zero_le _⟩) hP hS (fun H locs hP hS => ?_)
  refine zz_r (y := ao) (zSd_o hsd) ?_
  refine va_get (D := (dC, dI)) (ci := 1) (v := .long (lN own)) (C := RX3) (T := TX3) (N := 2) hx hb hts hinX3 hown hK hP 1 rfl rfl 0 (by decide) (hts (.fieldLink RX5 70 "RoyalUrTable$Side" "layout" "J") (List.mem_of_getElem? (i := 3) rfl)) (fun _ h9 => h9) rfl dX5_noteWorthsBehind_17 ?_
  refine lv_lstore_n (lv' := [(2, .long (lN own)), (0, .ref ax), (1, .int (nI d))]) hx hb dX5_noteWorthsBehind_20 rfl hl (by decide) rfl (fun ls hl => ?_)
  refine lv_aload_n hx hb dX5_noteWorthsBehind_21 rfl (lv_at hl 1 rfl) ?_
  refine lv_iconst (v := 1) hx hb dX5_noteWorthsBehind_22 (by decide) ?_
  refine lv_aload_n hx hb dX5_noteWorthsBehind_23 rfl (lv_at hl 1 rfl) ?_
  refine va_get (D := (dC, dI)) (ci := 2) (v := .int (nI tn)) (C := RX5) (T := TX5) (N := 9) hx hb hts hinX5 hown hK hP 0 rfl rfl 5 (by decide) (hts (.fieldLink RX5 59 "RoyalUrTable" "turn" "I") (List.mem_of_getElem? (i := 2) rfl)) (fun _ h9 => h9) rfl dX5_noteWorthsBehind_24 ?_
  refine lv_isub hx hb dX5_noteWorthsBehind_27 ?_
  refine zz_i (y := nI (1 - tn)) (pk_sub (a := 1) (b := tn) (by omega)) ?_
  refine zro_r (va_runV (As := [.int (nI (1 - tn))]) (rest := []) ⟨hx, hb, hml, hown, hts⟩ (c_X5_sideOf l dC dI cyI cyJ ax a0 a1 ae aw (nI k) (nI tn) mk wn cnt (1 - tn) (by omega)) (cwV 1 hts gX5_noteWorthsBehind_X5_sideOf rfl rfl rfl (by decide +kernel) ⟨(show 0 + 1 ≤ 20 by omega), (show 8 + (2 + 11) + 0 ≤ 600 by omega)⟩) (zPc_V (ci := 2) (q0 := 0) zB_T hP hK rfl rfl [0] rfl (fun _ _ _ => trivial)) rfl rfl hl.1 rfl (lv_room (Nat.le_of_ble_eq_true rfl)) dX5_noteWorthsBehind_28 ⟨Nat.zero_le _, Nat.zero_le _⟩) hP hS (fun H locs hP hS => ?_)
  refine zz_r (y := aq) (zSd_q hsd) ?_
  refine va_get (D := (dC, dI)) (ci := 1) (v := .long (lN oth)) (C := RX3) (T := TX3) (N := 2) hx hb hts hinX3 hown hK hP 2 rfl rfl 0 (by decide) (hts (.fieldLink RX5 70 "RoyalUrTable$Side" "layout" "J") (List.mem_of_getElem? (i := 3) rfl)) (fun _ h9 => h9) rfl dX5_noteWorthsBehind_31 ?_
  refine lv_lstore (lv' := [(4, .long (lN oth)), (2, .long (lN own)), (0, .ref ax), (1, .int (nI d))]) hx hb dX5_noteWorthsBehind_34 hl (by decide) rfl (fun ls hl => ?_)
  refine lv_aload_n hx hb dX5_noteWorthsBehind_36 rfl (lv_at hl 2 rfl) ?_
  refine zro_i (va_runV (As := []) (rest := []) ⟨hx, hb, hml, hown, hts⟩ (c_X5_leadOfTurn l dC dI cyI cyJ ax a0 a1 ae aw ao aq mk wn cnt lo lq k tn own oth hsd hO hQ) (cwV 0 hts gX5_noteWorthsBehind_X5_leadOfTurn rfl rfl rfl (by decide +kernel) ⟨(show 2 + 1 ≤ 20 by omega), (show 8 + (1 + 11) + 45 ≤ 600 by omega)⟩) (zPc_V (ci := 2) (q0 := 0) zB_T hP hK rfl rfl [0, 1, 2] rfl (fun _ _ _ => trivial)) rfl rfl hl.1 rfl (lv_room (Nat.le_of_ble_eq_true rfl)) dX5_noteWorthsBehind_37 ⟨Nat.zero_le _, Nat.zero_le _⟩) hP hS (fun H locs hP hS => ?_)
  refine lv_istore (lv' := [(6, .int (zLd own oth)), (4, .long (lN oth)), (2, .long (lN own)), (0, .ref ax), (1, .int (nI d))]) hx hb dX5_noteWorthsBehind_40 hl (by decide) rfl (fun ls hl => ?_)
  refine lv_iconst (v := 0) hx hb dX5_noteWorthsBehind_42 (by decide) ?_
  refine lv_istore (lv' := [(7, .int 0), (6, .int (zLd own oth)), (4, .long (lN oth)), (2, .long (lN own)), (0, .ref ax), (1, .int (nI d))]) hx hb dX5_noteWorthsBehind_43 hl (by decide) rfl (fun ls hl => ?_)
  have lp : ∀ (n9 : Nat) (i : Nat) (g : Nat → Int32), i ≤ 15 → (∀ j, j < i → g j = zWB k d own oth mm j) → 15 - i < n9 → ∀ (H : Heap) (locs : List Loc), va_P (dC, dI) vwCl [(ax, .inr (2, [.ref a0, .ref a1, .ref ae, .ref aw, .int (nI k), .int (nI tn), .int mk, .int wn, .int cnt])), (ao, .inr (1, [.long (lN own), .int lo])), (aq, .inr (1, [.long (lN oth), .int lq])), (ae, .inr (0, [.ref at_, .int (nI u_6.1)])), (at_, .inl (cyI, 13500, .inl u_6.2)), (aw, .inl (cyI, 15, .inl g))] H → va_S (zA [ax, ao, aq, ae, at_, aw]) s.heap H locs → ∀ ls : Array Slot, lv_has ls 8 [(7, .int (nI i)), (0, .ref ax), (1, .int (nI d)), (2, .long (lN own)), (4, .long (lN oth)), (6, .int (zLd own oth))] → W p l e (headSpec wsX5_noteWorthsBehind ({ frames := 20, cells := 0, slots := 0, locals := 600 })).room s m ([.ref ax, .int (nI d)] : List Value).toArray below meth c H locs 0 0 Q (F0 m 45 ls []) := by
    intro n9
    induction n9 with
    | zero => intro i g hi2 hg hm9; exact absurd hm9 (Nat.not_lt_zero _)
    | succ n9 ih45 =>
      intro i g hi2 hg hm9 H locs hP hS ls hl
      refine lv_iload hx hb dX5_noteWorthsBehind_45 (lv_at hl 0 rfl) ?_
      refine lv_aload_n hx hb dX5_noteWorthsBehind_47 rfl (lv_at hl 1 rfl) ?_
      refine va_get (D := (dC, dI)) (ci := 2) (v := .ref aw) (C := RX5) (T := TX5) (N := 9) hx hb hts hinX5 hown hK hP 0 rfl rfl 3 (by decide) (hts (.fieldLink RX5 28 "RoyalUrTable" "worthsBehind" "[I") (List.mem_of_getElem? (i := 4) rfl)) (fun _ h9 => h9) rfl dX5_noteWorthsBehind_48 ?_
      refine va_alen (v := 15) hx hb hK hP 5 0 rfl rfl rfl dX5_noteWorthsBehind_51 ?_
      refine lv_icmp_ge (tgt := 103) hx hb dX5_noteWorthsBehind_52 (by decide) (fun c_52 => ?_) (fun c_52 => ?_)
      · skip
        have c_52 : 15 ≤ i := (nI_leI (a := 15) (b := i) (by omega) (by omega)).mp c_52
        subst hQe
        exact W.vret hx hb hr (fun t ht hW => ⟨⟨(u_6.1, u_6.2, g), rfl, ⟨hw_6.1, hw_6.2.2, fun j hj => hg j (by omega)⟩, zh ht hP⟩, hS.F ht⟩) hS.2.2 dX5_noteWorthsBehind_103
      · skip
        have c_52 : ¬ 15 ≤ i := fun h9 => c_52 ((nI_leI (a := 15) (b := i) (by omega) (by omega)).mpr h9)
        refine lv_aload_n hx hb dX5_noteWorthsBehind_55 rfl (lv_at hl 1 rfl) ?_
        refine va_get (D := (dC, dI)) (ci := 2) (v := .ref aw) (C := RX5) (T := TX5) (N := 9) hx hb hts hinX5 hown hK hP 0 rfl rfl 3 (by decide) (hts (.fieldLink RX5 28 "RoyalUrTable" "worthsBehind" "[I") (List.mem_of_getElem? (i := 4) rfl)) (fun _ h9 => h9) rfl dX5_noteWorthsBehind_56 ?_
        refine lv_iload hx hb dX5_noteWorthsBehind_59 (lv_at hl 0 rfl) ?_
        refine lv_lload_n hx hb dX5_noteWorthsBehind_61 rfl (lv_at hl 3 rfl) ?_
        refine lv_lload hx hb dX5_noteWorthsBehind_62 (lv_at hl 4 rfl) ?_
        refine lv_iload hx hb dX5_noteWorthsBehind_64 (lv_at hl 0 rfl) ?_
        refine lv_aload_n hx hb dX5_noteWorthsBehind_66 rfl (lv_at hl 1 rfl) ?_
        refine va_get (D := (dC, dI)) (ci := 2) (v := .int mk) (C := RX5) (T := TX5) (N := 9) hx hb hts hinX5 hown hK hP 0 rfl rfl 6 (by decide) (hts (.fieldLink RX5 46 "RoyalUrTable" "marksTold" "I") (List.mem_of_getElem? (i := 5) rfl)) (fun _ h9 => h9) rfl dX5_noteWorthsBehind_67 ?_
        refine zro_i (va_runS (As := [.long (lN own), .long (lN oth), .int (nI i), .int mk]) (rest := [.int (nI i), .ref aw]) ⟨hx, hb, hml, hown, hts⟩ (c_X2_canMove l own oth i mm mk hO.lt hQ.lt (by omega) hmm hmk) (va_cwS 4 hts gX5_noteWorthsBehind_X2_canMove rfl rfl rfl (by decide +kernel) ⟨(show 1 + 1 ≤ 20 by omega), (show 8 + (7 + 11) + 22 ≤ 600 by omega)⟩) zPu rfl rfl hl.1 rfl (lv_room (Nat.le_of_ble_eq_true rfl)) dX5_noteWorthsBehind_70 ⟨Nat.zero_le _, Nat.zero_le _⟩) hP hS (fun H locs hP hS => ?_)
        refine lv_if_eq (tgt := 95) hx hb dX5_noteWorthsBehind_73 (by decide) (fun c_73 => ?_) (fun c_73 => ?_)
        · skip
          have c_73 := bI_0.mp c_73
          refine lv_iconst (v := -1) hx hb dX5_noteWorthsBehind_95 (by decide) ?_
          refine zi_iast hx hb hK hP hDD hS 5 0 rfl rfl (j := i) rfl (by omega) (by decide) dX5_noteWorthsBehind_96 (fun H locs hP hS => ?_)
          have hP : va_P (dC, dI) vwCl [(ax, .inr (2, [.ref a0, .ref a1, .ref ae, .ref aw, .int (nI k), .int (nI tn), .int mk, .int wn, .int cnt])), (ao, .inr (1, [.long (lN own), .int lo])), (aq, .inr (1, [.long (lN oth), .int lq])), (ae, .inr (0, [.ref at_, .int (nI u_6.1)])), (at_, .inl (cyI, 13500, .inl u_6.2)), (aw, .inl (cyI, 15, .inl (upd g i (-1))))] H := hP
          refine lv_iinc (v := nI (i + 1)) (lv' := [(7, .int (nI (i + 1))), (0, .ref ax), (1, .int (nI d)), (2, .long (lN own)), (4, .long (lN oth)), (6, .int (zLd own oth))]) hx hb dX5_noteWorthsBehind_97 hl (k := 0) rfl (nI_1 i) (by decide) rfl (fun ls hl => ?_)
          refine lv_goto (tgt := 45) hx hb dX5_noteWorthsBehind_100 (by decide) ?_
          exact ih45 (i + 1) _ (by omega) (zWB_n hg c_73) (by omega) _ _ hP hS _ (lv_sub hl [0, 1, 2, 3, 4, 5] rfl)
        · skip
          have c_73 := bI_1.mp c_73
          refine lv_aload_n hx hb dX5_noteWorthsBehind_76 rfl (lv_at hl 1 rfl) ?_
          refine lv_lload_n hx hb dX5_noteWorthsBehind_77 rfl (lv_at hl 3 rfl) ?_
          refine lv_lload hx hb dX5_noteWorthsBehind_78 (lv_at hl 4 rfl) ?_
          refine lv_iload hx hb dX5_noteWorthsBehind_80 (lv_at hl 5 rfl) ?_
          refine lv_iload hx hb dX5_noteWorthsBehind_82 (lv_at hl 0 rfl) ?_
          refine lv_aload_n hx hb dX5_noteWorthsBehind_84 rfl (lv_at hl 1 rfl) ?_
          refine va_get (D := (dC, dI)) (ci := 2) (v := .int mk) (C := RX5) (T := TX5) (N := 9) hx hb hts hinX5 hown hK hP 0 rfl rfl 6 (by decide) (hts (.fieldLink RX5 46 "RoyalUrTable" "marksTold" "I") (List.mem_of_getElem? (i := 5) rfl)) (fun _ h9 => h9) rfl dX5_noteWorthsBehind_85 ?_
          refine zz_i (y := nI mm) (zmk_eq hmk (zcm_spec c_73).1) ?_
          refine lv_iload_n hx hb dX5_noteWorthsBehind_88 rfl (lv_at hl 2 rfl) ?_
          refine zro_i (va_runV (As := [.long (lN own), .long (lN oth), .int (zLd own oth), .int (nI i), .int (nI mm), .int (nI d)]) (rest := [.int (nI i), .ref aw]) ⟨hx, hb, hml, hown, hts⟩ (c_X5_worthBehindMove l dC dI cyI cyJ tb ax a0 a1 ae aw at_ (nI tn) mk wn cnt (nI u_6.1) u_6.2 k u_6.1 hk1 hw_6.2.2 hw_6.2.1 hw_6.1 d (by omega) own oth i mm hO hQ (by omega) (by omega) c_73) (cwV 6 hts gX5_noteWorthsBehind_X5_worthBehindMove rfl rfl rfl (by decide +kernel) ⟨(show (3 * d + 7) + 1 ≤ 20 by omega), (show 8 + (15 + 11) + (92 * d + 229) ≤ 600 by omega)⟩) (zPc_V (ci := 2) (q0 := 0) zB_X hP hK rfl rfl [0, 3, 4] rfl (zX_at hX hS zF_A)) rfl rfl hl.1 rfl (lv_room (Nat.le_of_ble_eq_true rfl)) dX5_noteWorthsBehind_89 ⟨Nat.zero_le _, Nat.zero_le _⟩) hP hS (fun H locs hP hS => ?_)
          refine lv_goto (tgt := 96) hx hb dX5_noteWorthsBehind_92 (by decide) ?_
          refine zi_iast hx hb hK hP hDD hS 5 0 rfl rfl (j := i) rfl (by omega) (by decide) dX5_noteWorthsBehind_96 (fun H locs hP hS => ?_)
          have hP : va_P (dC, dI) vwCl [(ax, .inr (2, [.ref a0, .ref a1, .ref ae, .ref aw, .int (nI k), .int (nI tn), .int mk, .int wn, .int cnt])), (ao, .inr (1, [.long (lN own), .int lo])), (aq, .inr (1, [.long (lN oth), .int lq])), (ae, .inr (0, [.ref at_, .int (nI u_6.1)])), (at_, .inl (cyI, 13500, .inl u_6.2)), (aw, .inl (cyI, 15, .inl (upd g i (nI (zBM (zV k d) own oth i mm)))))] H := hP
          refine lv_iinc (v := nI (i + 1)) (lv' := [(7, .int (nI (i + 1))), (0, .ref ax), (1, .int (nI d)), (2, .long (lN own)), (4, .long (lN oth)), (6, .int (zLd own oth))]) hx hb dX5_noteWorthsBehind_97 hl (k := 0) rfl (nI_1 i) (by decide) rfl (fun ls hl => ?_)
          refine lv_goto (tgt := 45) hx hb dX5_noteWorthsBehind_100 (by decide) ?_
          exact ih45 (i + 1) _ (by omega) (zWB_y hg c_73) (by omega) _ _ hP hS _ (lv_sub hl [0, 1, 2, 3, 4, 5] rfl)
  exact lp 16 0 wb (by omega) (fun j h => absurd h (Nat.not_lt_zero _)) (by omega) _ _ hP hS _ (lv_sub hl [0, 4, 5, 3, 2, 1] rfl)

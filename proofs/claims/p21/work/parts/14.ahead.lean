/-! the class looks ahead: the lead, the places, the worths -/
def zLd (a b : Nat) : Int32 := nI (psum a 16) - nI (psum b 16)
theorem zi_ring1 (x y z : Int32) : x - y + z = (x + z) - y := by grind
theorem zi_ring2 (x y : Int32) : -(x - y) = y - x := by grind
theorem zi_ring3 (c h x y : Int32) : h + c * (x - y) = (h + c * x) - c * y := by grind
theorem zi_ring4 (x y z : Int32) : x - (y + z) + z = x - y := by grind
theorem zLd_neg (a b : Nat) : -(zLd a b) = zLd b a := zi_ring2 _ _
theorem zLd_own {a a' b m : Nat} (h : psum a' 16 = psum a 16 + m) : zLd a b + nI m = zLd a' b := by
  unfold zLd
  rw [h, zi_ring1, nI_add]
theorem zLd_oth {a b b' m : Nat} (h : psum b 16 = psum b' 16 + m) : zLd a b + nI m = zLd a b' := by
  unfold zLd
  rw [h, ← nI_add, zi_ring4]
theorem zlead {a b : Nat} (ha : psum a 16 ≤ 60) (hb : psum b 16 ≤ 60) : 500000000 + 4000000 * zLd a b = nI (500000000 + 4000000 * psum a 16 - 4000000 * psum b 16) := by
  rw [← pk_sub (by omega), ← nI_add, ← pk_mul, ← pk_mul]
  exact zi_ring3 _ _ _ _
theorem zfs_ex (n : Nat) : ∀ j p, (∃ q, p ≤ q ∧ q < p + j ∧ dg n q ≠ 0) → zfs n p j < p + j := by
  intro j
  induction j with
  | zero => intro p h; obtain ⟨q, h1, h2, -⟩ := h; omega
  | succ j ih =>
    intro p h
    rw [zfs_s]
    split
    · rename_i h0
      obtain ⟨q, h1, h2, h3⟩ := h
      have := ih (p + 1) ⟨q, by rcases Nat.lt_or_ge p q with h4 | h4; exact h4; exact absurd (by rw [show q = p by omega]; exact h0) h3, by omega, h3⟩
      omega
    · omega
theorem dsum_ex (n : Nat) : ∀ j, dsum n j ≠ 0 → ∃ q, q < j ∧ dg n q ≠ 0 := by
  intro j
  induction j with
  | zero => intro h; exact absurd rfl h
  | succ j ih =>
    intro h
    by_cases h1 : dsum n j = 0
    · refine ⟨j, by omega, fun h2 => h ?_⟩
      show dsum n j + dg n j = 0
      omega
    · obtain ⟨q, h2, h3⟩ := ih h1
      exact ⟨q, by omega, h3⟩
theorem zfs_lt {k n : Nat} (h : zok k n) (h1 : 1 ≤ k) (h2 : dg n 15 = k - 1) : zfs n 0 15 < 15 := by
  have h3 : dsum n 15 + dg n 15 = k := h.2.2
  obtain ⟨q, h4, h5⟩ := dsum_ex n 15 (by omega)
  have := zfs_ex n 15 0 ⟨q, Nat.zero_le _, by omega, h5⟩
  omega
theorem zmaxI {n : Nat} (h : 1 ≤ n) (h2 : n < 2 ^ 31) : (if nI n < 1 then 1 else nI n) = nI n := if_neg (fun h9 => absurd ((nI_ltI (a := n) (b := 1) (by omega) (by omega)).mp h9) (by omega))
theorem zminI {n : Nat} (h : n ≤ 999999999) : (if (999999999 : Int32) < nI n then 999999999 else nI n) = nI n := if_neg (fun h9 => absurd ((nI_ltI (a := 999999999) (b := n) (by omega) (by omega)).mp h9) (by omega))
theorem zHas_s (own oth m j : Nat) : zHas own oth m (j + 1) = (zHas own oth m j || zcm own oth j m) := rfl
theorem zBst_s (g : Nat → Nat) (own oth m j : Nat) : zBst g own oth m (j + 1) = if zcm own oth j m = true then max (zBst g own oth m j) (g j) else zBst g own oth m j := rfl
/-- the best so far, or none -/
def zBI (g : Nat → Nat) (own oth m j : Nat) (b : Int32) : Prop := (zHas own oth m j = false ∧ zBst g own oth m j = 0 ∧ b = -1) ∨ (zHas own oth m j = true ∧ b = nI (zBst g own oth m j))
theorem zBI_n {g : Nat → Nat} {own oth m j : Nat} {b : Int32} (h : zBI g own oth m j b) (c : zcm own oth j m = false) : zBI g own oth m (j + 1) b := by
  unfold zBI
  rw [zHas_s, zBst_s, c, if_neg (by decide), Bool.or_false]
  exact h
theorem zBI_y {g : Nat → Nat} {own oth m j : Nat} {b : Int32} (h : zBI g own oth m j b) (hg : ∀ a, g a ≤ 1000000000) (c : zcm own oth j m = true) : zBI g own oth m (j + 1) (if b < nI (g j) then nI (g j) else b) := by
  refine Or.inr ⟨by rw [zHas_s, c, Bool.or_true], ?_⟩
  rw [zBst_s, if_pos c]
  have h1 := hg j
  rcases h with ⟨-, h2, h3⟩ | ⟨-, h3⟩
  · rw [h2, h3, if_pos (by rw [Int32.lt_iff_toInt_lt, nI_toInt (by omega)]; show (-1 : Int) < _; omega), Nat.zero_max]
  · have h4 := zBst_le hg own oth m j
    rw [h3]
    by_cases h5 : zBst g own oth m j < g j
    · rw [if_pos ((nI_ltI (by omega) (by omega)).mpr h5), Nat.max_eq_right (by omega)]
    · rw [if_neg (fun h9 => h5 ((nI_ltI (by omega) (by omega)).mp h9)), Nat.max_eq_left (by omega)]
theorem zBI_0 (g : Nat → Nat) (own oth m : Nat) : zBI g own oth m 0 (-1) := Or.inl ⟨rfl, rfl, rfl⟩
theorem zBI_t {g : Nat → Nat} {own oth m j : Nat} {b : Int32} (h : zBI g own oth m j b) (c : ¬ b = -1) : zHas own oth m j = true ∧ b = nI (zBst g own oth m j) := by
  rcases h with ⟨-, -, h3⟩ | h
  · exact absurd h3 c
  · exact h
theorem zBI_f {g : Nat → Nat} {own oth m j : Nat} {b : Int32} (h : zBI g own oth m j b) (hg : ∀ a, g a ≤ 1000000000) (c : b = -1) : zHas own oth m j = false := by
  rcases h with ⟨h1, -, -⟩ | ⟨-, h2⟩
  · exact h1
  · exfalso
    have h4 := zBst_le hg own oth m j
    have h5 : (nI (zBst g own oth m j)).toInt = -1 := by rw [← h2, c]; rfl
    rw [nI_toInt (by omega)] at h5
    omega
set_option maxHeartbeats 4000000 in
set_option maxRecDepth 100000 in
theorem c_X5_worthAtOnce (l : Launch) (dC : Nat → ClassId) (dI : Nat → Nat → Nat) (cyI cyJ : ClassId) (tb ax a0 a1 ae aw at_ : Nat) (tI mk wn cnt rh : Int32) (wf : Nat → Int32) (k kk : Nat) (hk1 : 1 ≤ k) (hkk : kk ≤ 60) (h40 : 40 ≤ kk) (htb : zTb kk wf) (own oth : Nat) (hO : zok k own) (hQ : zok k oth) : Met l yX5_worthAtOnce wsX5_worthAtOnce ({ frames := 2, cells := 0, slots := 0, locals := 44 }) (zPc [.ref ax, .long (lN own), .long (lN oth), .int (zLd own oth)] (dC, dI) vwCl [(cyI, .int)] [(ax, .inr (2, [.ref a0, .ref a1, .ref ae, .ref aw, .int (nI k), .int tI, .int mk, .int wn, .int cnt])), (ae, .inr (0, [.ref at_, .int rh])), (at_, .inl (cyI, 13500, .inl wf))] (fun _ => True)) (va_Qi (fun (r : Int32) (_ : Unit) => r = nI (zLf k own oth)) (fun _ _ => True) zF) 0 0 zF := by
  refine Met.ofW (cc := cX5_worthAtOnce) (maxL := 7) (ret := (some .int)) (by decide) rfl ?_
  intro p e s m args below meth c s₁ B hml hv
  obtain ⟨rfl, hP, hK, hX⟩ := hv
  have hx := B.exec
  have hb := B.bytes
  have hr := B.returns
  have hts := atoms_spec (ws := wsX5_worthAtOnce) B.pre
  have hown : s.vm.findClass RX5 = some m.cls := findClass_of_methodNamed B.named
  have hlocks := B.notSynchronized
  have hinX5 : ∀ w ∈ wsX50, w ∈ wsX5_worthAtOnce := by decide +kernel
  have hl := lv_entry ([.ref ax, .long (lN own), .long (lN oth), .int (zLd own oth)]) (n := 7) (Nat.le_of_ble_eq_true rfl)
  rw [lg_entry_eq]
  generalize (lg_sl ([.ref ax, .long (lN own), .long (lN oth), .int (zLd own oth)]) ++ List.replicate (7 - (lg_sl ([.ref ax, .long (lN own), .long (lN oth), .int (zLd own oth)])).length) Slot.unset).toArray = ls at hl ⊢
  have hl : lv_has ls 7 [(0, .ref ax), (1, .long (lN own)), (3, .long (lN oth)), (5, .int (zLd own oth))] := hl
  have hS : va_S zF s.heap s.heap [] := va_S.rf
  have hk4 := hO.1
  have hl1 := hO.lt
  have hl2 := hQ.lt
  have hp1 := hO.ps
  have hp2 := hQ.ps
  refine lv_aload_n hx hb dX5_worthAtOnce_0 rfl (lv_at hl 0 rfl) ?_
  refine va_get (D := (dC, dI)) (ci := 2) (v := .int (nI k)) (C := RX5) (T := TX5) (N := 9) hx hb hts hinX5 hown hK hP 0 rfl rfl 4 (by decide) (hts (.fieldLink RX5 135 "RoyalUrTable" "piecesOfEach" "I") (List.mem_of_getElem? (i := 1) rfl)) (fun _ h9 => h9) rfl dX5_worthAtOnce_1 ?_
  refine lv_iconst (v := 1) hx hb dX5_worthAtOnce_4 (by decide) ?_
  refine lv_isub hx hb dX5_worthAtOnce_5 ?_
  refine zz_i (y := nI (k - 1)) (pk_sub (a := k) (b := 1) (by omega)) ?_
  refine lv_istore (lv' := [(6, .int (nI (k - 1))), (0, .ref ax), (1, .long (lN own)), (3, .long (lN oth)), (5, .int (zLd own oth))]) hx hb dX5_worthAtOnce_6 hl (by decide) rfl (fun ls hl => ?_)
  refine lv_lload_n hx hb dX5_worthAtOnce_8 rfl (lv_at hl 2 rfl) ?_
  refine lv_bipush (v := 15) hx hb dX5_worthAtOnce_9 (by decide) ?_
  refine zro_i (va_runS (As := [.long (lN own), .int 15]) (rest := []) ⟨hx, hb, hml, hown, hts⟩ (c_X2_countAt l own (by omega) 15 (by omega)) (va_cwS 2 hts gX5_worthAtOnce_X2_countAt rfl rfl rfl (by decide +kernel) ⟨Nat.le_of_ble_eq_true rfl, Nat.le_of_ble_eq_true rfl⟩) zPu rfl rfl hl.1 rfl (lv_room (Nat.le_of_ble_eq_true rfl)) dX5_worthAtOnce_11 ⟨Nat.zero_le _, Nat.zero_le _⟩) hP hS (fun H locs hP hS => ?_)
  have hd_11 := dg_lt own 15
  refine lv_iload hx hb dX5_worthAtOnce_14 (lv_at hl 0 rfl) ?_
  refine lv_icmp_ne (tgt := 48) hx hb dX5_worthAtOnce_16 (by decide) (fun c_16 => ?_) (fun c_16 => ?_)
  · skip
    have c_16 : ¬ (dg own 15) = (k - 1) := fun h9 => c_16 ((nI_eq (a := dg own 15) (b := k - 1) (by omega) (by omega)).mpr h9)
    refine lv_ldc (v := 500000000) hx hb hown (hts (.constant RX5 179 (500000000)) (List.mem_of_getElem? (i := 3) rfl)) dX5_worthAtOnce_48 ?_
    refine lv_ldc (v := 4000000) hx hb hown (hts (.constant RX5 180 (4000000)) (List.mem_of_getElem? (i := 4) rfl)) dX5_worthAtOnce_50 ?_
    refine lv_iload hx hb dX5_worthAtOnce_52 (lv_at hl 4 rfl) ?_
    refine lv_imul hx hb dX5_worthAtOnce_54 ?_
    refine lv_iadd hx hb dX5_worthAtOnce_55 ?_
    refine zz_i (y := nI (500000000 + 4000000 * psum own 16 - 4000000 * psum oth 16)) (zlead hp1 hp2) ?_
    refine lv_iconst (v := 1) hx hb dX5_worthAtOnce_56 (by decide) ?_
    refine va_mmax hx hb (hml.trans hl.1.symm) hown (hts (.methodLink RX5 171 Lib.Math.max.name) (List.mem_of_getElem? (i := 5) rfl)) (hts (.static Lib.Math.max.name) (List.mem_of_getElem? (i := 6) rfl)) (hts (.initialized "java/lang/Math") (List.mem_of_getElem? (i := 7) rfl)) (hts (.code Lib.Math.max.name Lib.Math.max.code 2 (some .int)) (List.mem_of_getElem? (i := 8) rfl)) (Nat.le_of_ble_eq_true rfl) (Nat.le_of_ble_eq_true rfl) (Nat.zero_le _) (Nat.zero_le _) dX5_worthAtOnce_57 ?_
    refine zz_i (y := nI (500000000 + 4000000 * psum own 16 - 4000000 * psum oth 16)) (zmaxI (by omega) (by omega)) ?_
    refine lv_ldc (v := 999999999) hx hb hown (hts (.constant RX5 181 (999999999)) (List.mem_of_getElem? (i := 9) rfl)) dX5_worthAtOnce_60 ?_
    refine va_mmin hx hb (hml.trans hl.1.symm) hown (hts (.methodLink RX5 182 Lib.Math.min.name) (List.mem_of_getElem? (i := 10) rfl)) (hts (.static Lib.Math.min.name) (List.mem_of_getElem? (i := 11) rfl)) (hts (.initialized "java/lang/Math") (List.mem_of_getElem? (i := 7) rfl)) (hts (.code Lib.Math.min.name Lib.Math.min.code 2 (some .int)) (List.mem_of_getElem? (i := 12) rfl)) (Nat.le_of_ble_eq_true rfl) (Nat.le_of_ble_eq_true rfl) (Nat.zero_le _) (Nat.zero_le _) dX5_worthAtOnce_62 ?_
    refine zz_i (y := nI (500000000 + 4000000 * psum own 16 - 4000000 * psum oth 16)) (zminI (by omega)) ?_
    exact W.iret (v := nI (500000000 + 4000000 * psum own 16 - 4000000 * psum oth 16)) hx hb hr (fun t ht hW => ⟨⟨_, (), rfl, (by rw [zLf, if_neg (fun h => c_16 h.1)]; exact congrArg nI (by omega)), trivial⟩, hS.F ht⟩) hS.2.2 dX5_worthAtOnce_65
  · skip
    have c_16 : (dg own 15) = (k - 1) := (nI_eq (a := dg own 15) (b := k - 1) (by omega) (by omega)).mp c_16
    refine lv_lload_n hx hb dX5_worthAtOnce_19 rfl (lv_at hl 3 rfl) ?_
    refine lv_bipush (v := 15) hx hb dX5_worthAtOnce_20 (by decide) ?_
    refine zro_i (va_runS (As := [.long (lN oth), .int 15]) (rest := []) ⟨hx, hb, hml, hown, hts⟩ (c_X2_countAt l oth (by omega) 15 (by omega)) (va_cwS 2 hts gX5_worthAtOnce_X2_countAt rfl rfl rfl (by decide +kernel) ⟨Nat.le_of_ble_eq_true rfl, Nat.le_of_ble_eq_true rfl⟩) zPu rfl rfl hl.1 rfl (lv_room (Nat.le_of_ble_eq_true rfl)) dX5_worthAtOnce_22 ⟨Nat.zero_le _, Nat.zero_le _⟩) hP hS (fun H locs hP hS => ?_)
    have hd_22 := dg_lt oth 15
    refine lv_iload hx hb dX5_worthAtOnce_25 (lv_at hl 0 rfl) ?_
    refine lv_icmp_ne (tgt := 48) hx hb dX5_worthAtOnce_27 (by decide) (fun c_27 => ?_) (fun c_27 => ?_)
    · skip
      have c_27 : ¬ (dg oth 15) = (k - 1) := fun h9 => c_27 ((nI_eq (a := dg oth 15) (b := k - 1) (by omega) (by omega)).mpr h9)
      refine lv_ldc (v := 500000000) hx hb hown (hts (.constant RX5 179 (500000000)) (List.mem_of_getElem? (i := 3) rfl)) dX5_worthAtOnce_48 ?_
      refine lv_ldc (v := 4000000) hx hb hown (hts (.constant RX5 180 (4000000)) (List.mem_of_getElem? (i := 4) rfl)) dX5_worthAtOnce_50 ?_
      refine lv_iload hx hb dX5_worthAtOnce_52 (lv_at hl 4 rfl) ?_
      refine lv_imul hx hb dX5_worthAtOnce_54 ?_
      refine lv_iadd hx hb dX5_worthAtOnce_55 ?_
      refine zz_i (y := nI (500000000 + 4000000 * psum own 16 - 4000000 * psum oth 16)) (zlead hp1 hp2) ?_
      refine lv_iconst (v := 1) hx hb dX5_worthAtOnce_56 (by decide) ?_
      refine va_mmax hx hb (hml.trans hl.1.symm) hown (hts (.methodLink RX5 171 Lib.Math.max.name) (List.mem_of_getElem? (i := 5) rfl)) (hts (.static Lib.Math.max.name) (List.mem_of_getElem? (i := 6) rfl)) (hts (.initialized "java/lang/Math") (List.mem_of_getElem? (i := 7) rfl)) (hts (.code Lib.Math.max.name Lib.Math.max.code 2 (some .int)) (List.mem_of_getElem? (i := 8) rfl)) (Nat.le_of_ble_eq_true rfl) (Nat.le_of_ble_eq_true rfl) (Nat.zero_le _) (Nat.zero_le _) dX5_worthAtOnce_57 ?_
      refine zz_i (y := nI (500000000 + 4000000 * psum own 16 - 4000000 * psum oth 16)) (zmaxI (by omega) (by omega)) ?_
      refine lv_ldc (v := 999999999) hx hb hown (hts (.constant RX5 181 (999999999)) (List.mem_of_getElem? (i := 9) rfl)) dX5_worthAtOnce_60 ?_
      refine va_mmin hx hb (hml.trans hl.1.symm) hown (hts (.methodLink RX5 182 Lib.Math.min.name) (List.mem_of_getElem? (i := 10) rfl)) (hts (.static Lib.Math.min.name) (List.mem_of_getElem? (i := 11) rfl)) (hts (.initialized "java/lang/Math") (List.mem_of_getElem? (i := 7) rfl)) (hts (.code Lib.Math.min.name Lib.Math.min.code 2 (some .int)) (List.mem_of_getElem? (i := 12) rfl)) (Nat.le_of_ble_eq_true rfl) (Nat.le_of_ble_eq_true rfl) (Nat.zero_le _) (Nat.zero_le _) dX5_worthAtOnce_62 ?_
      refine zz_i (y := nI (500000000 + 4000000 * psum own 16 - 4000000 * psum oth 16)) (zminI (by omega)) ?_
      exact W.iret (v := nI (500000000 + 4000000 * psum own 16 - 4000000 * psum oth 16)) hx hb hr (fun t ht hW => ⟨⟨_, (), rfl, (by rw [zLf, if_neg (fun h => c_27 h.2)]; exact congrArg nI (by omega)), trivial⟩, hS.F ht⟩) hS.2.2 dX5_worthAtOnce_65
    · skip
      have c_27 : (dg oth 15) = (k - 1) := (nI_eq (a := dg oth 15) (b := k - 1) (by omega) (by omega)).mp c_27
      have hz1 := zfs_lt hO hk1 c_16
      have hz2 := zfs_lt hQ hk1 c_27
      refine lv_aload_n hx hb dX5_worthAtOnce_30 rfl (lv_at hl 1 rfl) ?_
      refine va_get (D := (dC, dI)) (ci := 2) (v := .ref ae) (C := RX5) (T := TX5) (N := 9) hx hb hts hinX5 hown hK hP 0 rfl rfl 2 (by decide) (hts (.fieldLink RX5 22 "RoyalUrTable" "endings" "LRoyalUrTable$Endings;") (List.mem_of_getElem? (i := 2) rfl)) (fun _ h9 => h9) rfl dX5_worthAtOnce_31 ?_
      refine lv_lload_n hx hb dX5_worthAtOnce_34 rfl (lv_at hl 2 rfl) ?_
      refine zro_i (va_runS (As := [.long (lN own)]) (rest := [.ref ae]) ⟨hx, hb, hml, hown, hts⟩ (c_X2_firstPlace l own (by omega)) (va_cwS 1 hts gX5_worthAtOnce_X2_firstPlace rfl rfl rfl (by decide +kernel) ⟨Nat.le_of_ble_eq_true rfl, Nat.le_of_ble_eq_true rfl⟩) zPu rfl rfl hl.1 rfl (lv_room (Nat.le_of_ble_eq_true rfl)) dX5_worthAtOnce_35 ⟨Nat.zero_le _, Nat.zero_le _⟩) hP hS (fun H locs hP hS => ?_)
      refine lv_lload_n hx hb dX5_worthAtOnce_38 rfl (lv_at hl 3 rfl) ?_
      refine zro_i (va_runS (As := [.long (lN oth)]) (rest := [.int (nI (zfs own 0 15)), .ref ae]) ⟨hx, hb, hml, hown, hts⟩ (c_X2_firstPlace l oth (by omega)) (va_cwS 1 hts gX5_worthAtOnce_X2_firstPlace rfl rfl rfl (by decide +kernel) ⟨Nat.le_of_ble_eq_true rfl, Nat.le_of_ble_eq_true rfl⟩) zPu rfl rfl hl.1 rfl (lv_room (Nat.le_of_ble_eq_true rfl)) dX5_worthAtOnce_39 ⟨Nat.zero_le _, Nat.zero_le _⟩) hP hS (fun H locs hP hS => ?_)
      refine lv_bipush (v := 40) hx hb dX5_worthAtOnce_42 (by decide) ?_
      refine zro_i (va_runV (As := [.int (nI (zfs own 0 15)), .int (nI (zfs oth 0 15)), .int 40]) (rest := []) ⟨hx, hb, hml, hown, hts⟩ (c_X1_held l dC dI cyI cyJ ae at_ rh wf kk hkk htb (zfs own 0 15) (zfs oth 0 15) 40 (by omega) (by omega) (by omega)) (cwV 3 hts gX5_worthAtOnce_X1_held rfl rfl rfl (by decide +kernel) ⟨Nat.le_of_ble_eq_true rfl, Nat.le_of_ble_eq_true rfl⟩) (zPc_V (ci := 0) (q0 := 1) zB_T hP hK rfl rfl [1, 2] rfl (fun _ _ _ => trivial)) rfl rfl hl.1 rfl (lv_room (Nat.le_of_ble_eq_true rfl)) dX5_worthAtOnce_44 ⟨Nat.zero_le _, Nat.zero_le _⟩) hP hS (fun H locs hP hS => ?_)
      exact W.iret (v := nI (zE 40 (zfs own 0 15) (zfs oth 0 15))) hx hb hr (fun t ht hW => ⟨⟨_, (), rfl, (by rw [zLf, if_pos ⟨c_16, c_27⟩]), trivial⟩, hS.F ht⟩) hS.2.2 dX5_worthAtOnce_47

set_option maxHeartbeats 4000000 in
set_option maxRecDepth 100000 in
theorem c_X5_worthBehindMove0 (l : Launch) (dC : Nat → ClassId) (dI : Nat → Nat → Nat) (cyI cyJ : ClassId) (tb ax a0 a1 ae aw at_ : Nat) (tI mk wn cnt rh : Int32) (wf : Nat → Int32) (k kk : Nat) (hk1 : 1 ≤ k) (hkk : kk ≤ 60) (h40 : 40 ≤ kk) (htb : zTb kk wf) (d : Nat) (hT : ∀ own oth : Nat, zok k own → zok k oth → Met l yX5_worthToThrow wsX5_worthToThrow ({ frames := 3 * d + 6, cells := 0, slots := 0, locals := 92 * d + 200 }) (zPc [.ref ax, .long (lN own), .long (lN oth), .int (zLd own oth), .int (nI d)] (dC, dI) vwCl [(cyI, .int)] [(ax, .inr (2, [.ref a0, .ref a1, .ref ae, .ref aw, .int (nI k), .int tI, .int mk, .int wn, .int cnt])), (ae, .inr (0, [.ref at_, .int rh])), (at_, .inl (cyI, 13500, .inl wf))] (fun U => zX tb zF U U.heap)) (va_Qi (fun (r : Int32) (_ : Unit) => r = nI (zV k d own oth)) (fun _ _ => True) zF) 0 0 zF) (own oth fr mm : Nat) (hO : zok k own) (hQ : zok k oth) (hfr : fr ≤ 14) (hmm : mm ≤ 4) (hcm : zcm own oth fr mm = true) : Met l yX5_worthBehindMove wsX5_worthBehindMove ({ frames := 3 * d + 7, cells := 0, slots := 0, locals := 92 * d + 229 }) (zPc [.ref ax, .long (lN own), .long (lN oth), .int (zLd own oth), .int (nI fr), .int (nI mm), .int (nI d)] (dC, dI) vwCl [(cyI, .int)] [(ax, .inr (2, [.ref a0, .ref a1, .ref ae, .ref aw, .int (nI k), .int tI, .int mk, .int wn, .int cnt])), (ae, .inr (0, [.ref at_, .int rh])), (at_, .inl (cyI, 13500, .inl wf))] (fun U => zX tb zF U U.heap)) (va_Qi (fun (r : Int32) (_ : Unit) => r = nI (zBM (zV k d) own oth fr mm)) (fun _ _ => True) zF) 0 0 zF := by
  refine Met.ofW (cc := cX5_worthBehindMove) (maxL := 15) (ret := (some .int)) (by decide) rfl ?_
  intro p e s m args below meth c s₁ B hml hv
  obtain ⟨rfl, hP, hK, hX⟩ := hv
  have hx := B.exec
  have hb := B.bytes
  have hr := B.returns
  have hts := atoms_spec (ws := wsX5_worthBehindMove) B.pre
  have hown : s.vm.findClass RX5 = some m.cls := findClass_of_methodNamed B.named
  have hlocks := B.notSynchronized
  have hl := lv_entry ([.ref ax, .long (lN own), .long (lN oth), .int (zLd own oth), .int (nI fr), .int (nI mm), .int (nI d)]) (n := 15) (Nat.le_of_ble_eq_true rfl)
  rw [lg_entry_eq]
  generalize (lg_sl ([.ref ax, .long (lN own), .long (lN oth), .int (zLd own oth), .int (nI fr), .int (nI mm), .int (nI d)]) ++ List.replicate (15 - (lg_sl ([.ref ax, .long (lN own), .long (lN oth), .int (zLd own oth), .int (nI fr), .int (nI mm), .int (nI d)])).length) Slot.unset).toArray = ls at hl ⊢
  have hl : lv_has ls 15 [(0, .ref ax), (1, .long (lN own)), (3, .long (lN oth)), (5, .int (zLd own oth)), (6, .int (nI fr)), (7, .int (nI mm)), (8, .int (nI d))] := hl
  have hS : va_S zF s.heap s.heap [] := va_S.rf
  have hk4 := hO.1
  have hl1 := hO.lt
  have hl2 := hQ.lt
  have hp1 := hO.ps
  have hp2 := hQ.ps
  obtain ⟨hm0, hd0, hto⟩ := zcm_spec hcm
  have hO2 : zok k (zsh own fr (fr + mm)) := zok_sh hO hd0 (by omega) (by omega) (by omega)
  have hl3 := hO2.lt
  have hps : psum (zsh own fr (fr + mm)) 16 = psum own 16 + mm := by have := psum_shk hO hd0 (by omega) hto (by omega); omega
  refine lv_iload hx hb dX5_worthBehindMove_0 (lv_at hl 4 rfl) ?_
  refine lv_iload hx hb dX5_worthBehindMove_2 (lv_at hl 5 rfl) ?_
  refine lv_iadd hx hb dX5_worthBehindMove_4 ?_
  refine zz_i (y := nI (fr + mm)) (nI_add fr mm) ?_
  refine lv_istore (lv' := [(9, .int (nI (fr + mm))), (0, .ref ax), (1, .long (lN own)), (3, .long (lN oth)), (5, .int (zLd own oth)), (6, .int (nI fr)), (7, .int (nI mm)), (8, .int (nI d))]) hx hb dX5_worthBehindMove_5 hl (by decide) rfl (fun ls hl => ?_)
  refine lv_lload_n hx hb dX5_worthBehindMove_7 rfl (lv_at hl 2 rfl) ?_
  refine lv_iload hx hb dX5_worthBehindMove_8 (lv_at hl 5 rfl) ?_
  refine lv_iload hx hb dX5_worthBehindMove_10 (lv_at hl 0 rfl) ?_
  refine zro_l (va_runS (As := [.long (lN own), .int (nI fr), .int (nI (fr + mm))]) (rest := []) ⟨hx, hb, hml, hown, hts⟩ (c_X2_shifted l own (by omega) fr (fr + mm) (by omega) (by omega) (dg_le hd0)) (va_cwS 3 hts gX5_worthBehindMove_X2_shifted rfl rfl rfl (by decide +kernel) ⟨(show 0 + 1 ≤ 3 * d + 7 by omega), (show 8 + (4 + 11) + 0 ≤ 92 * d + 229 by omega)⟩) zPu rfl rfl hl.1 rfl (lv_room (Nat.le_of_ble_eq_true rfl)) dX5_worthBehindMove_12 ⟨Nat.zero_le _, Nat.zero_le _⟩) hP hS (fun H locs hP hS => ?_)
  refine lv_lstore (lv' := [(10, .long (lN (zsh own fr (fr + mm)))), (9, .int (nI (fr + mm))), (0, .ref ax), (1, .long (lN own)), (3, .long (lN oth)), (5, .int (zLd own oth)), (6, .int (nI fr)), (7, .int (nI mm)), (8, .int (nI d))]) hx hb dX5_worthBehindMove_15 hl (by decide) rfl (fun ls hl => ?_)
  refine lv_lload hx hb dX5_worthBehindMove_17 (lv_at hl 0 rfl) ?_
  refine zro_i (va_runS (As := [.long (lN (zsh own fr (fr + mm)))]) (rest := []) ⟨hx, hb, hml, hown, hts⟩ (c_X2_isAllHome l (zsh own fr (fr + mm)) (by omega)) (va_cwS 1 hts gX5_worthBehindMove_X2_isAllHome rfl rfl rfl (by decide +kernel) ⟨(show 0 + 1 ≤ 3 * d + 7 by omega), (show 8 + (2 + 11) + 0 ≤ 92 * d + 229 by omega)⟩) zPu rfl rfl hl.1 rfl (lv_room (Nat.le_of_ble_eq_true rfl)) dX5_worthBehindMove_19 ⟨Nat.zero_le _, Nat.zero_le _⟩) hP hS (fun H locs hP hS => ?_)
  refine lv_if_eq (tgt := 28) hx hb dX5_worthBehindMove_22 (by decide) (fun c_22 => ?_) (fun c_22 => ?_)
  · skip
    have c_22 := bI_0.mp c_22
    refine lv_lload_n hx hb dX5_worthBehindMove_28 rfl (lv_at hl 4 rfl) ?_
    refine lv_lstore (lv' := [(12, .long (lN oth)), (10, .long (lN (zsh own fr (fr + mm)))), (9, .int (nI (fr + mm))), (0, .ref ax), (1, .long (lN own)), (3, .long (lN oth)), (5, .int (zLd own oth)), (6, .int (nI fr)), (7, .int (nI mm)), (8, .int (nI d))]) hx hb dX5_worthBehindMove_29 hl (by decide) rfl (fun ls hl => ?_)
    refine lv_iload hx hb dX5_worthBehindMove_31 (lv_at hl 6 rfl) ?_
    refine lv_iload hx hb dX5_worthBehindMove_33 (lv_at hl 8 rfl) ?_
    refine lv_iadd hx hb dX5_worthBehindMove_35 ?_
    refine zz_i (y := zLd (zsh own fr (fr + mm)) oth) (zLd_own hps) ?_
    refine lv_istore (lv' := [(14, .int (zLd (zsh own fr (fr + mm)) oth)), (12, .long (lN oth)), (10, .long (lN (zsh own fr (fr + mm)))), (9, .int (nI (fr + mm))), (0, .ref ax), (1, .long (lN own)), (3, .long (lN oth)), (5, .int (zLd own oth)), (6, .int (nI fr)), (7, .int (nI mm)), (8, .int (nI d))]) hx hb dX5_worthBehindMove_36 hl (by decide) rfl (fun ls hl => ?_)
    refine lv_lload_n hx hb dX5_worthBehindMove_38 rfl (lv_at hl 6 rfl) ?_
    refine lv_iload hx hb dX5_worthBehindMove_39 (lv_at hl 3 rfl) ?_
    refine zro_i (va_runS (As := [.long (lN oth), .int (nI (fr + mm))]) (rest := []) ⟨hx, hb, hml, hown, hts⟩ (c_X2_canBeTaken l oth (by omega) (fr + mm) (by omega)) (va_cwS 2 hts gX5_worthBehindMove_X2_canBeTaken rfl rfl rfl (by decide +kernel) ⟨(show 1 + 1 ≤ 3 * d + 7 by omega), (show 8 + (3 + 11) + 22 ≤ 92 * d + 229 by omega)⟩) zPu rfl rfl hl.1 rfl (lv_room (Nat.le_of_ble_eq_true rfl)) dX5_worthBehindMove_41 ⟨Nat.zero_le _, Nat.zero_le _⟩) hP hS (fun H locs hP hS => ?_)
    refine lv_if_eq (tgt := 63) hx hb dX5_worthBehindMove_44 (by decide) (fun c_44 => ?_) (fun c_44 => ?_)
    · skip
      have c_44 := bI_0.mp c_44
      refine lv_iload hx hb dX5_worthBehindMove_63 (lv_at hl 3 rfl) ?_
      refine zro_i (va_runS (As := [.int (nI (fr + mm))]) (rest := []) ⟨hx, hb, hml, hown, hts⟩ (c_X4_isRosette l (fr + mm) (by omega)) (va_cwS 1 hts gX5_worthBehindMove_X4_isRosette rfl rfl rfl (by decide +kernel) ⟨(show 0 + 1 ≤ 3 * d + 7 by omega), (show 8 + (1 + 11) + 0 ≤ 92 * d + 229 by omega)⟩) zPu rfl rfl hl.1 rfl (lv_room (Nat.le_of_ble_eq_true rfl)) dX5_worthBehindMove_65 ⟨Nat.zero_le _, Nat.zero_le _⟩) hP hS (fun H locs hP hS => ?_)
      refine lv_if_eq (tgt := 84) hx hb dX5_worthBehindMove_68 (by decide) (fun c_68 => ?_) (fun c_68 => ?_)
      · skip
        have c_68 := bI_0.mp c_68
        refine lv_ldc (v := 1000000000) hx hb hown (hts (.constant RX5 105 (1000000000)) (List.mem_of_getElem? (i := 1) rfl)) dX5_worthBehindMove_84 ?_
        refine lv_aload_n hx hb dX5_worthBehindMove_86 rfl (lv_at hl 4 rfl) ?_
        refine lv_lload hx hb dX5_worthBehindMove_87 (lv_at hl 1 rfl) ?_
        refine lv_lload hx hb dX5_worthBehindMove_89 (lv_at hl 2 rfl) ?_
        refine lv_iload hx hb dX5_worthBehindMove_91 (lv_at hl 0 rfl) ?_
        refine lv_ineg hx hb dX5_worthBehindMove_93 ?_
        refine zz_i (y := zLd oth (zsh own fr (fr + mm))) (zLd_neg _ _) ?_
        refine lv_iload hx hb dX5_worthBehindMove_94 (lv_at hl 10 rfl) ?_
        refine zro_i (va_runV (As := [.long (lN oth), .long (lN (zsh own fr (fr + mm))), .int (zLd oth (zsh own fr (fr + mm))), .int (nI d)]) (rest := [.int 1000000000]) ⟨hx, hb, hml, hown, hts⟩ (hT oth (zsh own fr (fr + mm)) hQ hO2) (cwV 4 hts gX5_worthBehindMove_X5_worthToThrow rfl rfl rfl (by decide +kernel) ⟨(show (3 * d + 6) + 1 ≤ 3 * d + 7 by omega), (show 8 + (10 + 11) + (92 * d + 200) ≤ 92 * d + 229 by omega)⟩) (zPc_V (ci := 2) (q0 := 0) zB_X hP hK rfl rfl [0, 1, 2] rfl (zX_at hX hS zF_A)) rfl rfl hl.1 rfl (lv_room (Nat.le_of_ble_eq_true rfl)) dX5_worthBehindMove_96 ⟨Nat.zero_le _, Nat.zero_le _⟩) hP hS (fun H locs hP hS => ?_)
        have hle_96 := zV_le k d oth (zsh own fr (fr + mm))
        refine lv_isub hx hb dX5_worthBehindMove_99 ?_
        refine zz_i (y := nI (1000000000 - (zV k d oth (zsh own fr (fr + mm))))) (pk_sub (a := 1000000000) (b := zV k d oth (zsh own fr (fr + mm))) (by omega)) ?_
        exact W.iret (v := nI (1000000000 - (zV k d oth (zsh own fr (fr + mm))))) hx hb hr (fun t ht hW => ⟨⟨_, (), rfl, (congrArg nI (by rw [zBM, if_neg (by rw [c_22]; decide), if_neg (by rw [c_68]; decide), if_neg (by rw [c_44]; decide)])), trivial⟩, hS.F ht⟩) hS.2.2 dX5_worthBehindMove_100
      · skip
        have c_68 := bI_1.mp c_68
        refine lv_aload_n hx hb dX5_worthBehindMove_71 rfl (lv_at hl 4 rfl) ?_
        refine lv_lload hx hb dX5_worthBehindMove_72 (lv_at hl 2 rfl) ?_
        refine lv_lload hx hb dX5_worthBehindMove_74 (lv_at hl 1 rfl) ?_
        refine lv_iload hx hb dX5_worthBehindMove_76 (lv_at hl 0 rfl) ?_
        refine lv_iload hx hb dX5_worthBehindMove_78 (lv_at hl 10 rfl) ?_
        refine zro_i (va_runV (As := [.long (lN (zsh own fr (fr + mm))), .long (lN oth), .int (zLd (zsh own fr (fr + mm)) oth), .int (nI d)]) (rest := []) ⟨hx, hb, hml, hown, hts⟩ (hT (zsh own fr (fr + mm)) oth hO2 hQ) (cwV 4 hts gX5_worthBehindMove_X5_worthToThrow rfl rfl rfl (by decide +kernel) ⟨(show (3 * d + 6) + 1 ≤ 3 * d + 7 by omega), (show 8 + (10 + 11) + (92 * d + 200) ≤ 92 * d + 229 by omega)⟩) (zPc_V (ci := 2) (q0 := 0) zB_X hP hK rfl rfl [0, 1, 2] rfl (zX_at hX hS zF_A)) rfl rfl hl.1 rfl (lv_room (Nat.le_of_ble_eq_true rfl)) dX5_worthBehindMove_80 ⟨Nat.zero_le _, Nat.zero_le _⟩) hP hS (fun H locs hP hS => ?_)
        have hle_80 := zV_le k d (zsh own fr (fr + mm)) oth
        exact W.iret (v := nI (zV k d (zsh own fr (fr + mm)) oth)) hx hb hr (fun t ht hW => ⟨⟨_, (), rfl, (congrArg nI (by rw [zBM, if_neg (by rw [c_22]; decide), if_pos c_68, if_neg (by rw [c_44]; decide)])), trivial⟩, hS.F ht⟩) hS.2.2 dX5_worthBehindMove_83
    · skip
      have c_44 := bI_1.mp c_44
      obtain ⟨ht5, ht12, htd⟩ := ztk_spec c_44
      have hQ2 : zok k (zsh oth (fr + mm) 0) := zok_sh hQ htd (by omega) (by omega) (by omega)
      have hl4 := hQ2.lt
      have hqs : psum oth 16 = psum (zsh oth (fr + mm) 0) 16 + (fr + mm) := by have := psum_shk hQ htd (by omega) (show 0 ≤ 15 by omega) (by omega); omega
      refine lv_lload_n hx hb dX5_worthBehindMove_47 rfl (lv_at hl 6 rfl) ?_
      refine lv_iload hx hb dX5_worthBehindMove_48 (lv_at hl 3 rfl) ?_
      refine lv_iconst (v := 0) hx hb dX5_worthBehindMove_50 (by decide) ?_
      refine zro_l (va_runS (As := [.long (lN oth), .int (nI (fr + mm)), .int 0]) (rest := []) ⟨hx, hb, hml, hown, hts⟩ (c_X2_shifted l oth (by omega) (fr + mm) 0 (by omega) (by omega) (dg_le htd)) (va_cwS 3 hts gX5_worthBehindMove_X2_shifted rfl rfl rfl (by decide +kernel) ⟨(show 0 + 1 ≤ 3 * d + 7 by omega), (show 8 + (4 + 11) + 0 ≤ 92 * d + 229 by omega)⟩) zPu rfl rfl hl.1 rfl (lv_room (Nat.le_of_ble_eq_true rfl)) dX5_worthBehindMove_51 ⟨Nat.zero_le _, Nat.zero_le _⟩) hP hS (fun H locs hP hS => ?_)
      refine lv_lstore (lv' := [(12, .long (lN (zsh oth (fr + mm) 0))), (14, .int (zLd (zsh own fr (fr + mm)) oth)), (10, .long (lN (zsh own fr (fr + mm)))), (9, .int (nI (fr + mm))), (0, .ref ax), (1, .long (lN own)), (3, .long (lN oth)), (5, .int (zLd own oth)), (6, .int (nI fr)), (7, .int (nI mm)), (8, .int (nI d))]) hx hb dX5_worthBehindMove_54 hl (by decide) rfl (fun ls hl => ?_)
      refine lv_iload hx hb dX5_worthBehindMove_56 (lv_at hl 1 rfl) ?_
      refine lv_iload hx hb dX5_worthBehindMove_58 (lv_at hl 3 rfl) ?_
      refine lv_iadd hx hb dX5_worthBehindMove_60 ?_
      refine zz_i (y := zLd (zsh own fr (fr + mm)) (zsh oth (fr + mm) 0)) (zLd_oth hqs) ?_
      refine lv_istore (lv' := [(14, .int (zLd (zsh own fr (fr + mm)) (zsh oth (fr + mm) 0))), (12, .long (lN (zsh oth (fr + mm) 0))), (10, .long (lN (zsh own fr (fr + mm)))), (9, .int (nI (fr + mm))), (0, .ref ax), (1, .long (lN own)), (3, .long (lN oth)), (5, .int (zLd own oth)), (6, .int (nI fr)), (7, .int (nI mm)), (8, .int (nI d))]) hx hb dX5_worthBehindMove_61 hl (by decide) rfl (fun ls hl => ?_)
      refine lv_iload hx hb dX5_worthBehindMove_63 (lv_at hl 3 rfl) ?_
      refine zro_i (va_runS (As := [.int (nI (fr + mm))]) (rest := []) ⟨hx, hb, hml, hown, hts⟩ (c_X4_isRosette l (fr + mm) (by omega)) (va_cwS 1 hts gX5_worthBehindMove_X4_isRosette rfl rfl rfl (by decide +kernel) ⟨(show 0 + 1 ≤ 3 * d + 7 by omega), (show 8 + (1 + 11) + 0 ≤ 92 * d + 229 by omega)⟩) zPu rfl rfl hl.1 rfl (lv_room (Nat.le_of_ble_eq_true rfl)) dX5_worthBehindMove_65 ⟨Nat.zero_le _, Nat.zero_le _⟩) hP hS (fun H locs hP hS => ?_)
      refine lv_if_eq (tgt := 84) hx hb dX5_worthBehindMove_68 (by decide) (fun c_68 => ?_) (fun c_68 => ?_)
      · skip
        have c_68 := bI_0.mp c_68
        refine lv_ldc (v := 1000000000) hx hb hown (hts (.constant RX5 105 (1000000000)) (List.mem_of_getElem? (i := 1) rfl)) dX5_worthBehindMove_84 ?_
        refine lv_aload_n hx hb dX5_worthBehindMove_86 rfl (lv_at hl 4 rfl) ?_
        refine lv_lload hx hb dX5_worthBehindMove_87 (lv_at hl 1 rfl) ?_
        refine lv_lload hx hb dX5_worthBehindMove_89 (lv_at hl 2 rfl) ?_
        refine lv_iload hx hb dX5_worthBehindMove_91 (lv_at hl 0 rfl) ?_
        refine lv_ineg hx hb dX5_worthBehindMove_93 ?_
        refine zz_i (y := zLd (zsh oth (fr + mm) 0) (zsh own fr (fr + mm))) (zLd_neg _ _) ?_
        refine lv_iload hx hb dX5_worthBehindMove_94 (lv_at hl 10 rfl) ?_
        refine zro_i (va_runV (As := [.long (lN (zsh oth (fr + mm) 0)), .long (lN (zsh own fr (fr + mm))), .int (zLd (zsh oth (fr + mm) 0) (zsh own fr (fr + mm))), .int (nI d)]) (rest := [.int 1000000000]) ⟨hx, hb, hml, hown, hts⟩ (hT (zsh oth (fr + mm) 0) (zsh own fr (fr + mm)) hQ2 hO2) (cwV 4 hts gX5_worthBehindMove_X5_worthToThrow rfl rfl rfl (by decide +kernel) ⟨(show (3 * d + 6) + 1 ≤ 3 * d + 7 by omega), (show 8 + (10 + 11) + (92 * d + 200) ≤ 92 * d + 229 by omega)⟩) (zPc_V (ci := 2) (q0 := 0) zB_X hP hK rfl rfl [0, 1, 2] rfl (zX_at hX hS zF_A)) rfl rfl hl.1 rfl (lv_room (Nat.le_of_ble_eq_true rfl)) dX5_worthBehindMove_96 ⟨Nat.zero_le _, Nat.zero_le _⟩) hP hS (fun H locs hP hS => ?_)
        have hle_96 := zV_le k d (zsh oth (fr + mm) 0) (zsh own fr (fr + mm))
        refine lv_isub hx hb dX5_worthBehindMove_99 ?_
        refine zz_i (y := nI (1000000000 - (zV k d (zsh oth (fr + mm) 0) (zsh own fr (fr + mm))))) (pk_sub (a := 1000000000) (b := zV k d (zsh oth (fr + mm) 0) (zsh own fr (fr + mm))) (by omega)) ?_
        exact W.iret (v := nI (1000000000 - (zV k d (zsh oth (fr + mm) 0) (zsh own fr (fr + mm))))) hx hb hr (fun t ht hW => ⟨⟨_, (), rfl, (congrArg nI (by rw [zBM, if_neg (by rw [c_22]; decide), if_neg (by rw [c_68]; decide), if_pos c_44])), trivial⟩, hS.F ht⟩) hS.2.2 dX5_worthBehindMove_100
      · skip
        have c_68 := bI_1.mp c_68
        refine lv_aload_n hx hb dX5_worthBehindMove_71 rfl (lv_at hl 4 rfl) ?_
        refine lv_lload hx hb dX5_worthBehindMove_72 (lv_at hl 2 rfl) ?_
        refine lv_lload hx hb dX5_worthBehindMove_74 (lv_at hl 1 rfl) ?_
        refine lv_iload hx hb dX5_worthBehindMove_76 (lv_at hl 0 rfl) ?_
        refine lv_iload hx hb dX5_worthBehindMove_78 (lv_at hl 10 rfl) ?_
        refine zro_i (va_runV (As := [.long (lN (zsh own fr (fr + mm))), .long (lN (zsh oth (fr + mm) 0)), .int (zLd (zsh own fr (fr + mm)) (zsh oth (fr + mm) 0)), .int (nI d)]) (rest := []) ⟨hx, hb, hml, hown, hts⟩ (hT (zsh own fr (fr + mm)) (zsh oth (fr + mm) 0) hO2 hQ2) (cwV 4 hts gX5_worthBehindMove_X5_worthToThrow rfl rfl rfl (by decide +kernel) ⟨(show (3 * d + 6) + 1 ≤ 3 * d + 7 by omega), (show 8 + (10 + 11) + (92 * d + 200) ≤ 92 * d + 229 by omega)⟩) (zPc_V (ci := 2) (q0 := 0) zB_X hP hK rfl rfl [0, 1, 2] rfl (zX_at hX hS zF_A)) rfl rfl hl.1 rfl (lv_room (Nat.le_of_ble_eq_true rfl)) dX5_worthBehindMove_80 ⟨Nat.zero_le _, Nat.zero_le _⟩) hP hS (fun H locs hP hS => ?_)
        have hle_80 := zV_le k d (zsh own fr (fr + mm)) (zsh oth (fr + mm) 0)
        exact W.iret (v := nI (zV k d (zsh own fr (fr + mm)) (zsh oth (fr + mm) 0))) hx hb hr (fun t ht hW => ⟨⟨_, (), rfl, (congrArg nI (by rw [zBM, if_neg (by rw [c_22]; decide), if_pos c_68, if_pos c_44])), trivial⟩, hS.F ht⟩) hS.2.2 dX5_worthBehindMove_83
  · skip
    have c_22 := bI_1.mp c_22
    refine lv_ldc (v := 1000000000) hx hb hown (hts (.constant RX5 105 (1000000000)) (List.mem_of_getElem? (i := 1) rfl)) dX5_worthBehindMove_25 ?_
    exact W.iret (v := 1000000000) hx hb hr (fun t ht hW => ⟨⟨_, (), rfl, (congrArg nI (by rw [zBM, if_pos c_22])), trivial⟩, hS.F ht⟩) hS.2.2 dX5_worthBehindMove_27

set_option maxHeartbeats 4000000 in
set_option maxRecDepth 100000 in
theorem c_X5_worthBehindThrow0 (l : Launch) (dC : Nat → ClassId) (dI : Nat → Nat → Nat) (cyI cyJ : ClassId) (tb ax a0 a1 ae aw at_ : Nat) (tI mk wn cnt rh : Int32) (wf : Nat → Int32) (k kk : Nat) (hk1 : 1 ≤ k) (hkk : kk ≤ 60) (h40 : 40 ≤ kk) (htb : zTb kk wf) (d : Nat) (hT : ∀ own oth : Nat, zok k own → zok k oth → Met l yX5_worthToThrow wsX5_worthToThrow ({ frames := 3 * d + 6, cells := 0, slots := 0, locals := 92 * d + 200 }) (zPc [.ref ax, .long (lN own), .long (lN oth), .int (zLd own oth), .int (nI d)] (dC, dI) vwCl [(cyI, .int)] [(ax, .inr (2, [.ref a0, .ref a1, .ref ae, .ref aw, .int (nI k), .int tI, .int mk, .int wn, .int cnt])), (ae, .inr (0, [.ref at_, .int rh])), (at_, .inl (cyI, 13500, .inl wf))] (fun U => zX tb zF U U.heap)) (va_Qi (fun (r : Int32) (_ : Unit) => r = nI (zV k d own oth)) (fun _ _ => True) zF) 0 0 zF) (hM : ∀ own oth fr mm : Nat, zok k own → zok k oth → fr ≤ 14 → mm ≤ 4 → zcm own oth fr mm = true → Met l yX5_worthBehindMove wsX5_worthBehindMove ({ frames := 3 * d + 7, cells := 0, slots := 0, locals := 92 * d + 229 }) (zPc [.ref ax, .long (lN own), .long (lN oth), .int (zLd own oth), .int (nI fr), .int (nI mm), .int (nI d)] (dC, dI) vwCl [(cyI, .int)] [(ax, .inr (2, [.ref a0, .ref a1, .ref ae, .ref aw, .int (nI k), .int tI, .int mk, .int wn, .int cnt])), (ae, .inr (0, [.ref at_, .int rh])), (at_, .inl (cyI, 13500, .inl wf))] (fun U => zX tb zF U U.heap)) (va_Qi (fun (r : Int32) (_ : Unit) => r = nI (zBM (zV k d) own oth fr mm)) (fun _ _ => True) zF) 0 0 zF) (own oth mm : Nat) (hO : zok k own) (hQ : zok k oth) (hmm : mm ≤ 4) : Met l yX5_worthBehindThrow wsX5_worthBehindThrow ({ frames := 3 * d + 8, cells := 0, slots := 0, locals := 92 * d + 263 }) (zPc [.ref ax, .long (lN own), .long (lN oth), .int (zLd own oth), .int (nI mm), .int (nI d)] (dC, dI) vwCl [(cyI, .int)] [(ax, .inr (2, [.ref a0, .ref a1, .ref ae, .ref aw, .int (nI k), .int tI, .int mk, .int wn, .int cnt])), (ae, .inr (0, [.ref at_, .int rh])), (at_, .inl (cyI, 13500, .inl wf))] (fun U => zX tb zF U U.heap)) (va_Qi (fun (r : Int32) (_ : Unit) => r = nI (zBT (zV k d) own oth mm)) (fun _ _ => True) zF) 0 0 zF := by
  refine Met.ofW (cc := cX5_worthBehindThrow) (maxL := 10) (ret := (some .int)) (by decide) rfl ?_
  intro p e s m args below meth c s₁ B hml hv
  obtain ⟨rfl, hP, hK, hX⟩ := hv
  have hx := B.exec
  have hb := B.bytes
  have hr := B.returns
  have hts := atoms_spec (ws := wsX5_worthBehindThrow) B.pre
  have hown : s.vm.findClass RX5 = some m.cls := findClass_of_methodNamed B.named
  have hlocks := B.notSynchronized
  have hl := lv_entry ([.ref ax, .long (lN own), .long (lN oth), .int (zLd own oth), .int (nI mm), .int (nI d)]) (n := 10) (Nat.le_of_ble_eq_true rfl)
  rw [lg_entry_eq]
  generalize (lg_sl ([.ref ax, .long (lN own), .long (lN oth), .int (zLd own oth), .int (nI mm), .int (nI d)]) ++ List.replicate (10 - (lg_sl ([.ref ax, .long (lN own), .long (lN oth), .int (zLd own oth), .int (nI mm), .int (nI d)])).length) Slot.unset).toArray = ls at hl ⊢
  have hl : lv_has ls 10 [(0, .ref ax), (1, .long (lN own)), (3, .long (lN oth)), (5, .int (zLd own oth)), (6, .int (nI mm)), (7, .int (nI d))] := hl
  have hS : va_S zF s.heap s.heap [] := va_S.rf
  generalize hQe : MQ below _ _ _ _ _ _ = Q
  have hk4 := hO.1
  have hl1 := hO.lt
  have hl2 := hQ.lt
  have hp1 := hO.ps
  have hp2 := hQ.ps
  have hgl : ∀ a, (fun fr => zBM (zV k d) own oth fr mm) a ≤ 1000000000 := fun a => zBM_le (zV_le k d) _ _ _ _
  refine lv_iconst (v := -1) hx hb dX5_worthBehindThrow_0 (by decide) ?_
  refine lv_istore (lv' := [(8, .int (-1)), (0, .ref ax), (1, .long (lN own)), (3, .long (lN oth)), (5, .int (zLd own oth)), (6, .int (nI mm)), (7, .int (nI d))]) hx hb dX5_worthBehindThrow_1 hl (by decide) rfl (fun ls hl => ?_)
  refine lv_iconst (v := 0) hx hb dX5_worthBehindThrow_3 (by decide) ?_
  refine lv_istore (lv' := [(9, .int 0), (8, .int (-1)), (0, .ref ax), (1, .long (lN own)), (3, .long (lN oth)), (5, .int (zLd own oth)), (6, .int (nI mm)), (7, .int (nI d))]) hx hb dX5_worthBehindThrow_4 hl (by decide) rfl (fun ls hl => ?_)
  have lp : ∀ (n9 : Nat) (i : Nat) (b : Int32), i ≤ 15 → zBI (fun fr => zBM (zV k d) own oth fr mm) own oth mm i b → 15 - i < n9 → ∀ (H : Heap) (locs : List Loc), va_P (dC, dI) vwCl [(ax, .inr (2, [.ref a0, .ref a1, .ref ae, .ref aw, .int (nI k), .int tI, .int mk, .int wn, .int cnt])), (ae, .inr (0, [.ref at_, .int rh])), (at_, .inl (cyI, 13500, .inl wf))] H → va_S zF s.heap H locs → ∀ ls : Array Slot, lv_has ls 10 [(9, .int (nI i)), (8, .int b), (0, .ref ax), (1, .long (lN own)), (3, .long (lN oth)), (5, .int (zLd own oth)), (6, .int (nI mm)), (7, .int (nI d))] → W p l e (headSpec wsX5_worthBehindThrow ({ frames := 3 * d + 8, cells := 0, slots := 0, locals := 92 * d + 263 })).room s m ([.ref ax, .long (lN own), .long (lN oth), .int (zLd own oth), .int (nI mm), .int (nI d)] : List Value).toArray below meth c H locs 0 0 Q (F0 m 6 ls []) := by
    intro n9
    induction n9 with
    | zero => intro i b hi2 hb9 hm9; exact absurd hm9 (Nat.not_lt_zero _)
    | succ n9 ih6 =>
      intro i b hi2 hb9 hm9 H locs hP hS ls hl
      refine lv_iload hx hb dX5_worthBehindThrow_6 (lv_at hl 0 rfl) ?_
      refine lv_bipush (v := 14) hx hb dX5_worthBehindThrow_8 (by decide) ?_
      refine lv_icmp_gt (tgt := 52) hx hb dX5_worthBehindThrow_10 (by decide) (fun c_10 => ?_) (fun c_10 => ?_)
      · skip
        have c_10 : 14 < i := (nI_ltI (a := 14) (b := i) (by omega) (by omega)).mp c_10
        refine lv_iload hx hb dX5_worthBehindThrow_52 (lv_at hl 1 rfl) ?_
        refine lv_iconst (v := -1) hx hb dX5_worthBehindThrow_54 (by decide) ?_
        refine lv_icmp_eq (tgt := 63) hx hb dX5_worthBehindThrow_55 (by decide) (fun c_55 => ?_) (fun c_55 => ?_)
        · skip
          refine lv_ldc (v := 1000000000) hx hb hown (hts (.constant RX5 105 (1000000000)) (List.mem_of_getElem? (i := 5) rfl)) dX5_worthBehindThrow_63 ?_
          refine lv_aload_n hx hb dX5_worthBehindThrow_65 rfl (lv_at hl 2 rfl) ?_
          refine lv_lload_n hx hb dX5_worthBehindThrow_66 rfl (lv_at hl 4 rfl) ?_
          refine lv_lload_n hx hb dX5_worthBehindThrow_67 rfl (lv_at hl 3 rfl) ?_
          refine lv_iload hx hb dX5_worthBehindThrow_68 (lv_at hl 5 rfl) ?_
          refine lv_ineg hx hb dX5_worthBehindThrow_70 ?_
          refine zz_i (y := zLd oth own) (zLd_neg _ _) ?_
          refine lv_iload hx hb dX5_worthBehindThrow_71 (lv_at hl 7 rfl) ?_
          refine zro_i (va_runV (As := [.long (lN oth), .long (lN own), .int (zLd oth own), .int (nI d)]) (rest := [.int 1000000000]) ⟨hx, hb, hml, hown, hts⟩ (hT oth own hQ hO) (cwV 4 hts gX5_worthBehindThrow_X5_worthToThrow rfl rfl rfl (by decide +kernel) ⟨(show (3 * d + 6) + 1 ≤ 3 * d + 8 by omega), (show 8 + (10 + 11) + (92 * d + 200) ≤ 92 * d + 263 by omega)⟩) (zPc_V (ci := 2) (q0 := 0) zB_X hP hK rfl rfl [0, 1, 2] rfl (zX_at hX hS zF_A)) rfl rfl hl.1 rfl (lv_room (Nat.le_of_ble_eq_true rfl)) dX5_worthBehindThrow_73 ⟨Nat.zero_le _, Nat.zero_le _⟩) hP hS (fun H locs hP hS => ?_)
          have hle_73 := zV_le k d oth own
          refine lv_isub hx hb dX5_worthBehindThrow_76 ?_
          refine zz_i (y := nI (1000000000 - (zV k d oth own))) (pk_sub (a := 1000000000) (b := zV k d oth own) (by omega)) ?_
          subst hQe
          exact W.iret (v := nI (1000000000 - (zV k d oth own))) hx hb hr (fun t ht hW => ⟨⟨_, (), rfl, (by have h1 := zBI_f hb9 hgl c_55; rw [show i = 15 by omega] at h1; rw [zBT, if_neg (by rw [h1]; decide)]), trivial⟩, hS.F ht⟩) hS.2.2 dX5_worthBehindThrow_77
        · skip
          refine lv_iload hx hb dX5_worthBehindThrow_58 (lv_at hl 1 rfl) ?_
          refine lv_goto (tgt := 77) hx hb dX5_worthBehindThrow_60 (by decide) ?_
          subst hQe
          exact W.iret (v := b) hx hb hr (fun t ht hW => ⟨⟨_, (), rfl, (by obtain ⟨h1, h2⟩ := zBI_t hb9 c_55; rw [show i = 15 by omega] at h1 h2; rw [h2, zBT, if_pos h1]), trivial⟩, hS.F ht⟩) hS.2.2 dX5_worthBehindThrow_77
      · skip
        have c_10 : ¬ 14 < i := fun h9 => c_10 ((nI_ltI (a := 14) (b := i) (by omega) (by omega)).mpr h9)
        refine lv_lload_n hx hb dX5_worthBehindThrow_13 rfl (lv_at hl 3 rfl) ?_
        refine lv_lload_n hx hb dX5_worthBehindThrow_14 rfl (lv_at hl 4 rfl) ?_
        refine lv_iload hx hb dX5_worthBehindThrow_15 (lv_at hl 0 rfl) ?_
        refine lv_iload hx hb dX5_worthBehindThrow_17 (lv_at hl 6 rfl) ?_
        refine zro_i (va_runS (As := [.long (lN own), .long (lN oth), .int (nI i), .int (nI mm)]) (rest := []) ⟨hx, hb, hml, hown, hts⟩ (c_X2_canMove l own oth i mm (nI mm) hO.lt hQ.lt (by omega) (by omega) (Or.inl rfl)) (va_cwS 4 hts gX5_worthBehindThrow_X2_canMove rfl rfl rfl (by decide +kernel) ⟨(show 1 + 1 ≤ 3 * d + 8 by omega), (show 8 + (7 + 11) + 22 ≤ 92 * d + 263 by omega)⟩) zPu rfl rfl hl.1 rfl (lv_room (Nat.le_of_ble_eq_true rfl)) dX5_worthBehindThrow_19 ⟨Nat.zero_le _, Nat.zero_le _⟩) hP hS (fun H locs hP hS => ?_)
        refine lv_if_eq (tgt := 46) hx hb dX5_worthBehindThrow_22 (by decide) (fun c_22 => ?_) (fun c_22 => ?_)
        · skip
          have c_22 := bI_0.mp c_22
          refine lv_iinc (v := nI (i + 1)) (lv' := [(9, .int (nI (i + 1))), (8, .int b), (0, .ref ax), (1, .long (lN own)), (3, .long (lN oth)), (5, .int (zLd own oth)), (6, .int (nI mm)), (7, .int (nI d))]) hx hb dX5_worthBehindThrow_46 hl (k := 0) rfl (nI_1 i) (by decide) rfl (fun ls hl => ?_)
          refine lv_goto (tgt := 6) hx hb dX5_worthBehindThrow_49 (by decide) ?_
          exact ih6 (i + 1) _ (by omega) (zBI_n hb9 c_22) (by omega) _ _ hP hS _ (lv_sub hl [0, 1, 2, 3, 4, 5, 6, 7] rfl)
        · skip
          have c_22 := bI_1.mp c_22
          refine lv_iload hx hb dX5_worthBehindThrow_25 (lv_at hl 1 rfl) ?_
          refine lv_aload_n hx hb dX5_worthBehindThrow_27 rfl (lv_at hl 2 rfl) ?_
          refine lv_lload_n hx hb dX5_worthBehindThrow_28 rfl (lv_at hl 3 rfl) ?_
          refine lv_lload_n hx hb dX5_worthBehindThrow_29 rfl (lv_at hl 4 rfl) ?_
          refine lv_iload hx hb dX5_worthBehindThrow_30 (lv_at hl 5 rfl) ?_
          refine lv_iload hx hb dX5_worthBehindThrow_32 (lv_at hl 0 rfl) ?_
          refine lv_iload hx hb dX5_worthBehindThrow_34 (lv_at hl 6 rfl) ?_
          refine lv_iload hx hb dX5_worthBehindThrow_36 (lv_at hl 7 rfl) ?_
          refine zro_i (va_runV (As := [.long (lN own), .long (lN oth), .int (zLd own oth), .int (nI i), .int (nI mm), .int (nI d)]) (rest := [.int b]) ⟨hx, hb, hml, hown, hts⟩ (hM own oth i mm hO hQ (by omega) (by omega) c_22) (cwV 6 hts gX5_worthBehindThrow_X5_worthBehindMove rfl rfl rfl (by decide +kernel) ⟨(show (3 * d + 7) + 1 ≤ 3 * d + 8 by omega), (show 8 + (15 + 11) + (92 * d + 229) ≤ 92 * d + 263 by omega)⟩) (zPc_V (ci := 2) (q0 := 0) zB_X hP hK rfl rfl [0, 1, 2] rfl (zX_at hX hS zF_A)) rfl rfl hl.1 rfl (lv_room (Nat.le_of_ble_eq_true rfl)) dX5_worthBehindThrow_38 ⟨Nat.zero_le _, Nat.zero_le _⟩) hP hS (fun H locs hP hS => ?_)
          refine va_mmax hx hb (hml.trans hl.1.symm) hown (hts (.methodLink RX5 171 Lib.Math.max.name) (List.mem_of_getElem? (i := 1) rfl)) (hts (.static Lib.Math.max.name) (List.mem_of_getElem? (i := 2) rfl)) (hts (.initialized "java/lang/Math") (List.mem_of_getElem? (i := 3) rfl)) (hts (.code Lib.Math.max.name Lib.Math.max.code 2 (some .int)) (List.mem_of_getElem? (i := 4) rfl)) (by show 1 ≤ 3 * d + 8; omega) (by show 0 + 13 ≤ 92 * d + 263; omega) (Nat.zero_le _) (Nat.zero_le _) dX5_worthBehindThrow_41 ?_
          refine lv_istore (lv' := [(8, .int (if b < nI (zBM (zV k d) own oth i mm) then nI (zBM (zV k d) own oth i mm) else b)), (9, .int (nI i)), (0, .ref ax), (1, .long (lN own)), (3, .long (lN oth)), (5, .int (zLd own oth)), (6, .int (nI mm)), (7, .int (nI d))]) hx hb dX5_worthBehindThrow_44 hl (by decide) rfl (fun ls hl => ?_)
          refine lv_iinc (v := nI (i + 1)) (lv' := [(9, .int (nI (i + 1))), (8, .int (if b < nI (zBM (zV k d) own oth i mm) then nI (zBM (zV k d) own oth i mm) else b)), (0, .ref ax), (1, .long (lN own)), (3, .long (lN oth)), (5, .int (zLd own oth)), (6, .int (nI mm)), (7, .int (nI d))]) hx hb dX5_worthBehindThrow_46 hl (k := 1) rfl (nI_1 i) (by decide) rfl (fun ls hl => ?_)
          refine lv_goto (tgt := 6) hx hb dX5_worthBehindThrow_49 (by decide) ?_
          exact ih6 (i + 1) _ (by omega) (zBI_y hb9 hgl c_22) (by omega) _ _ hP hS _ (lv_sub hl [0, 1, 2, 3, 4, 5, 6, 7] rfl)
  exact lp 16 0 (-1) (by omega) (zBI_0 _ _ _ _) (by omega) _ _ hP hS _ (lv_sub hl [0, 1, 2, 3, 4, 5, 6, 7] rfl)

set_option maxHeartbeats 4000000 in
set_option maxRecDepth 100000 in
theorem c_X5_worthToThrow0 (l : Launch) (dC : Nat → ClassId) (dI : Nat → Nat → Nat) (cyI cyJ : ClassId) (tb ax a0 a1 ae aw at_ : Nat) (tI mk wn cnt rh : Int32) (wf : Nat → Int32) (k kk : Nat) (hk1 : 1 ≤ k) (hkk : kk ≤ 60) (h40 : 40 ≤ kk) (htb : zTb kk wf) (own oth : Nat) (hO : zok k own) (hQ : zok k oth) : Met l yX5_worthToThrow wsX5_worthToThrow ({ frames := 3 * 0 + 6, cells := 0, slots := 0, locals := 92 * 0 + 200 }) (zPc [.ref ax, .long (lN own), .long (lN oth), .int (zLd own oth), .int (nI 0)] (dC, dI) vwCl [(cyI, .int)] [(ax, .inr (2, [.ref a0, .ref a1, .ref ae, .ref aw, .int (nI k), .int tI, .int mk, .int wn, .int cnt])), (ae, .inr (0, [.ref at_, .int rh])), (at_, .inl (cyI, 13500, .inl wf))] (fun U => zX tb zF U U.heap)) (va_Qi (fun (r : Int32) (_ : Unit) => r = nI (zV k 0 own oth)) (fun _ _ => True) zF) 0 0 zF := by
  refine Met.ofW (cc := cX5_worthToThrow) (maxL := 10) (ret := (some .int)) (by decide) rfl ?_
  intro p e s m args below meth c s₁ B hml hv
  obtain ⟨rfl, hP, hK, hX⟩ := hv
  have hx := B.exec
  have hb := B.bytes
  have hr := B.returns
  have hts := atoms_spec (ws := wsX5_worthToThrow) B.pre
  have hown : s.vm.findClass RX5 = some m.cls := findClass_of_methodNamed B.named
  have hlocks := B.notSynchronized
  have hl := lv_entry ([.ref ax, .long (lN own), .long (lN oth), .int (zLd own oth), .int (nI 0)]) (n := 10) (Nat.le_of_ble_eq_true rfl)
  rw [lg_entry_eq]
  generalize (lg_sl ([.ref ax, .long (lN own), .long (lN oth), .int (zLd own oth), .int (nI 0)]) ++ List.replicate (10 - (lg_sl ([.ref ax, .long (lN own), .long (lN oth), .int (zLd own oth), .int (nI 0)])).length) Slot.unset).toArray = ls at hl ⊢
  have hl : lv_has ls 10 [(0, .ref ax), (1, .long (lN own)), (3, .long (lN oth)), (5, .int (zLd own oth)), (6, .int (nI 0))] := hl
  have hS : va_S zF s.heap s.heap [] := va_S.rf
  generalize hQe : MQ below _ _ _ _ _ _ = Q
  have hk4 := hO.1
  have hl1 := hO.lt
  have hl2 := hQ.lt
  have hp1 := hO.ps
  have hp2 := hQ.ps
  refine lv_iload hx hb dX5_worthToThrow_0 (lv_at hl 4 rfl) ?_
  refine lv_if_gt (tgt := 14) hx hb dX5_worthToThrow_2 (by decide) (fun c_2 => ?_) (fun c_2 => ?_)
  · skip
    have c_2 : 0 < 0 := (nI_ltI (a := 0) (b := 0) (by omega) (by omega)).mp c_2
    exact absurd c_2 (Nat.lt_irrefl _)
  · skip
    have c_2 : ¬ 0 < 0 := fun h9 => c_2 ((nI_ltI (a := 0) (b := 0) (by omega) (by omega)).mpr h9)
    refine lv_aload_n hx hb dX5_worthToThrow_5 rfl (lv_at hl 0 rfl) ?_
    refine lv_lload_n hx hb dX5_worthToThrow_6 rfl (lv_at hl 1 rfl) ?_
    refine lv_lload_n hx hb dX5_worthToThrow_7 rfl (lv_at hl 2 rfl) ?_
    refine lv_iload hx hb dX5_worthToThrow_8 (lv_at hl 3 rfl) ?_
    refine zro_i (va_runV (As := [.long (lN own), .long (lN oth), .int (zLd own oth)]) (rest := []) ⟨hx, hb, hml, hown, hts⟩ (c_X5_worthAtOnce l dC dI cyI cyJ tb ax a0 a1 ae aw at_ tI mk wn cnt rh wf k kk hk1 hkk h40 htb own oth hO hQ) (cwV 3 hts gX5_worthToThrow_X5_worthAtOnce rfl rfl rfl (by decide +kernel) ⟨(show 2 + 1 ≤ 3 * 0 + 6 by omega), (show 8 + (7 + 11) + 44 ≤ 92 * 0 + 200 by omega)⟩) (zPc_V (ci := 2) (q0 := 0) zB_T hP hK rfl rfl [0, 1, 2] rfl (fun _ _ _ => trivial)) rfl rfl hl.1 rfl (lv_room (Nat.le_of_ble_eq_true rfl)) dX5_worthToThrow_10 ⟨Nat.zero_le _, Nat.zero_le _⟩) hP hS (fun H locs hP hS => ?_)
    subst hQe
    exact W.iret (v := nI (zLf k own oth)) hx hb hr (fun t ht hW => ⟨⟨_, (), rfl, rfl, trivial⟩, hS.F ht⟩) hS.2.2 dX5_worthToThrow_13

set_option maxHeartbeats 4000000 in
set_option maxRecDepth 100000 in
theorem c_X5_worthToThrow1 (l : Launch) (dC : Nat → ClassId) (dI : Nat → Nat → Nat) (cyI cyJ : ClassId) (tb ax a0 a1 ae aw at_ : Nat) (tI mk wn cnt rh : Int32) (wf : Nat → Int32) (k kk : Nat) (hk1 : 1 ≤ k) (hkk : kk ≤ 60) (h40 : 40 ≤ kk) (htb : zTb kk wf) (d : Nat) (hd9 : d ≤ 100) (hB : ∀ own oth mm : Nat, zok k own → zok k oth → mm ≤ 4 → Met l yX5_worthBehindThrow wsX5_worthBehindThrow ({ frames := 3 * d + 8, cells := 0, slots := 0, locals := 92 * d + 263 }) (zPc [.ref ax, .long (lN own), .long (lN oth), .int (zLd own oth), .int (nI mm), .int (nI d)] (dC, dI) vwCl [(cyI, .int)] [(ax, .inr (2, [.ref a0, .ref a1, .ref ae, .ref aw, .int (nI k), .int tI, .int mk, .int wn, .int cnt])), (ae, .inr (0, [.ref at_, .int rh])), (at_, .inl (cyI, 13500, .inl wf))] (fun U => zX tb zF U U.heap)) (va_Qi (fun (r : Int32) (_ : Unit) => r = nI (zBT (zV k d) own oth mm)) (fun _ _ => True) zF) 0 0 zF) (own oth : Nat) (hO : zok k own) (hQ : zok k oth) : Met l yX5_worthToThrow wsX5_worthToThrow ({ frames := 3 * (d + 1) + 6, cells := 0, slots := 0, locals := 92 * (d + 1) + 200 }) (zPc [.ref ax, .long (lN own), .long (lN oth), .int (zLd own oth), .int (nI (d + 1))] (dC, dI) vwCl [(cyI, .int)] [(ax, .inr (2, [.ref a0, .ref a1, .ref ae, .ref aw, .int (nI k), .int tI, .int mk, .int wn, .int cnt])), (ae, .inr (0, [.ref at_, .int rh])), (at_, .inl (cyI, 13500, .inl wf))] (fun U => zX tb zF U U.heap)) (va_Qi (fun (r : Int32) (_ : Unit) => r = nI (zV k (d + 1) own oth)) (fun _ _ => True) zF) 0 0 zF := by
  refine Met.ofW (cc := cX5_worthToThrow) (maxL := 10) (ret := (some .int)) (by decide) rfl ?_
  intro p e s m args below meth c s₁ B hml hv
  obtain ⟨rfl, hP, hK, hX⟩ := hv
  have hx := B.exec
  have hb := B.bytes
  have hr := B.returns
  have hts := atoms_spec (ws := wsX5_worthToThrow) B.pre
  have hown : s.vm.findClass RX5 = some m.cls := findClass_of_methodNamed B.named
  have hlocks := B.notSynchronized
  have hl := lv_entry ([.ref ax, .long (lN own), .long (lN oth), .int (zLd own oth), .int (nI (d + 1))]) (n := 10) (Nat.le_of_ble_eq_true rfl)
  rw [lg_entry_eq]
  generalize (lg_sl ([.ref ax, .long (lN own), .long (lN oth), .int (zLd own oth), .int (nI (d + 1))]) ++ List.replicate (10 - (lg_sl ([.ref ax, .long (lN own), .long (lN oth), .int (zLd own oth), .int (nI (d + 1))])).length) Slot.unset).toArray = ls at hl ⊢
  have hl : lv_has ls 10 [(0, .ref ax), (1, .long (lN own)), (3, .long (lN oth)), (5, .int (zLd own oth)), (6, .int (nI (d + 1)))] := hl
  have hS : va_S zF s.heap s.heap [] := va_S.rf
  generalize hQe : MQ below _ _ _ _ _ _ = Q
  have hk4 := hO.1
  have hl1 := hO.lt
  have hl2 := hQ.lt
  have hp1 := hO.ps
  have hp2 := hQ.ps
  refine lv_iload hx hb dX5_worthToThrow_0 (lv_at hl 4 rfl) ?_
  refine lv_if_gt (tgt := 14) hx hb dX5_worthToThrow_2 (by decide) (fun c_2 => ?_) (fun c_2 => ?_)
  · skip
    have c_2 : 0 < (d + 1) := (nI_ltI (a := 0) (b := d + 1) (by omega) (by omega)).mp c_2
    have hfl : ∀ m, m ≤ 4 → (zBT (zV k d) own oth) m ≤ 1000000000 := fun m _ => zBT_le (zV_le k d) _ _ _
    refine lv_lconst (v := 0) hx hb dX5_worthToThrow_14 (by decide) ?_
    refine lv_lstore (lv' := [(7, .long 0), (0, .ref ax), (1, .long (lN own)), (3, .long (lN oth)), (5, .int (zLd own oth)), (6, .int (nI (d + 1)))]) hx hb dX5_worthToThrow_15 hl (by decide) rfl (fun ls hl => ?_)
    refine lv_iconst (v := 0) hx hb dX5_worthToThrow_17 (by decide) ?_
    refine lv_istore (lv' := [(9, .int 0), (7, .long 0), (0, .ref ax), (1, .long (lN own)), (3, .long (lN oth)), (5, .int (zLd own oth)), (6, .int (nI (d + 1)))]) hx hb dX5_worthToThrow_18 hl (by decide) rfl (fun ls hl => ?_)
    have lp : ∀ (n9 : Nat) (i : Nat) (sv : Int64), i ≤ 5 → sv = lN (zsm (zBT (zV k d) own oth) i) → 5 - i < n9 → ∀ (H : Heap) (locs : List Loc), va_P (dC, dI) vwCl [(ax, .inr (2, [.ref a0, .ref a1, .ref ae, .ref aw, .int (nI k), .int tI, .int mk, .int wn, .int cnt])), (ae, .inr (0, [.ref at_, .int rh])), (at_, .inl (cyI, 13500, .inl wf))] H → va_S zF s.heap H locs → ∀ ls : Array Slot, lv_has ls 10 [(9, .int (nI i)), (7, .long sv), (0, .ref ax), (1, .long (lN own)), (3, .long (lN oth)), (5, .int (zLd own oth)), (6, .int (nI (d + 1)))] → W p l e (headSpec wsX5_worthToThrow ({ frames := 3 * (d + 1) + 6, cells := 0, slots := 0, locals := 92 * (d + 1) + 200 })).room s m ([.ref ax, .long (lN own), .long (lN oth), .int (zLd own oth), .int (nI (d + 1))] : List Value).toArray below meth c H locs 0 0 Q (F0 m 20 ls []) := by
      intro n9
      induction n9 with
      | zero => intro i sv hi2 hsv hm9; exact absurd hm9 (Nat.not_lt_zero _)
      | succ n9 ih20 =>
        intro i sv hi2 hsv hm9 H locs hP hS ls hl
        refine lv_iload hx hb dX5_worthToThrow_20 (lv_at hl 0 rfl) ?_
        refine lv_iconst (v := 4) hx hb dX5_worthToThrow_22 (by decide) ?_
        refine lv_icmp_gt (tgt := 59) hx hb dX5_worthToThrow_23 (by decide) (fun c_23 => ?_) (fun c_23 => ?_)
        · skip
          have c_23 : 4 < i := (nI_ltI (a := 4) (b := i) (by omega) (by omega)).mp c_23
          refine lv_lload hx hb dX5_worthToThrow_59 (lv_at hl 1 rfl) ?_
          refine lv_ldc2 (v := 16) hx hb hown (hts (.constantLong RX5 169 (16)) (List.mem_of_getElem? (i := 1) rfl)) dX5_worthToThrow_61 ?_
          refine lv_ldiv hx hb dX5_worthToThrow_64 (by decide) ?_
          refine zz_l (y := lN (zsm (zBT (zV k d) own oth) 5 / 16)) (by rw [hsv, show i = 5 by omega]; exact zdiv16 (zsm_le hfl 5 (by omega))) ?_
          refine lv_l2i (v := (lN (zsm (zBT (zV k d) own oth) 5 / 16) : Int64).toInt32) hx hb dX5_worthToThrow_65 rfl ?_
          refine zz_i (y := nI (zsm (zBT (zV k d) own oth) 5 / 16)) (lN_i _) ?_
          subst hQe
          exact W.iret (v := nI (zsm (zBT (zV k d) own oth) 5 / 16)) hx hb hr (fun t ht hW => ⟨⟨_, (), rfl, rfl, trivial⟩, hS.F ht⟩) hS.2.2 dX5_worthToThrow_66
        · skip
          have c_23 : ¬ 4 < i := fun h9 => c_23 ((nI_ltI (a := 4) (b := i) (by omega) (by omega)).mpr h9)
          refine lv_lload hx hb dX5_worthToThrow_26 (lv_at hl 1 rfl) ?_
          refine lv_iload hx hb dX5_worthToThrow_28 (lv_at hl 0 rfl) ?_
          refine zro_i (va_runS (As := [.int (nI i)]) (rest := [.long sv]) ⟨hx, hb, hml, hown, hts⟩ (c_X0_timesIn16 l tb i (by omega)) (va_cwS 1 hts gX5_worthToThrow_X0_timesIn16 rfl rfl rfl (by decide +kernel) ⟨(show 0 + 1 ≤ 3 * (d + 1) + 6 by omega), (show 8 + (1 + 11) + 0 ≤ 92 * (d + 1) + 200 by omega)⟩) (zPx zB_X (zX_at hX hS zF_A)) rfl rfl hl.1 rfl (lv_room (Nat.le_of_ble_eq_true rfl)) dX5_worthToThrow_30 ⟨Nat.zero_le _, Nat.zero_le _⟩) hP hS (fun H locs hP hS => ?_)
          refine lv_i2l (v := (nI (ztm i) : Int32).toInt64) hx hb dX5_worthToThrow_33 rfl ?_
          refine zz_l (y := lN (ztm i)) (ztm_l i) ?_
          refine lv_aload_n hx hb dX5_worthToThrow_34 rfl (lv_at hl 2 rfl) ?_
          refine lv_lload_n hx hb dX5_worthToThrow_35 rfl (lv_at hl 3 rfl) ?_
          refine lv_lload_n hx hb dX5_worthToThrow_36 rfl (lv_at hl 4 rfl) ?_
          refine lv_iload hx hb dX5_worthToThrow_37 (lv_at hl 5 rfl) ?_
          refine lv_iload hx hb dX5_worthToThrow_39 (lv_at hl 0 rfl) ?_
          refine lv_iload hx hb dX5_worthToThrow_41 (lv_at hl 6 rfl) ?_
          refine lv_iconst (v := 1) hx hb dX5_worthToThrow_43 (by decide) ?_
          refine lv_isub hx hb dX5_worthToThrow_44 ?_
          refine zz_i (y := nI d) (nI_pred d) ?_
          refine zro_i (va_runV (As := [.long (lN own), .long (lN oth), .int (zLd own oth), .int (nI i), .int (nI d)]) (rest := [.long (lN (ztm i)), .long sv]) ⟨hx, hb, hml, hown, hts⟩ (hB own oth i hO hQ (by omega)) (cwV 5 hts gX5_worthToThrow_X5_worthBehindThrow rfl rfl rfl (by decide +kernel) ⟨(show (3 * d + 8) + 1 ≤ 3 * (d + 1) + 6 by omega), (show 8 + (10 + 11) + (92 * d + 263) ≤ 92 * (d + 1) + 200 by omega)⟩) (zPc_V (ci := 2) (q0 := 0) zB_X hP hK rfl rfl [0, 1, 2] rfl (zX_at hX hS zF_A)) rfl rfl hl.1 rfl (lv_room (Nat.le_of_ble_eq_true rfl)) dX5_worthToThrow_45 ⟨Nat.zero_le _, Nat.zero_le _⟩) hP hS (fun H locs hP hS => ?_)
          refine lv_i2l (v := (nI (zBT (zV k d) own oth i) : Int32).toInt64) hx hb dX5_worthToThrow_48 rfl ?_
          refine zz_l (y := lN ((zBT (zV k d) own oth) i)) (nI_lw (hfl i (by omega))) ?_
          refine lv_lmul hx hb dX5_worthToThrow_49 ?_
          refine lv_ladd hx hb dX5_worthToThrow_50 ?_
          refine zz_l (y := lN (zsm (zBT (zV k d) own oth) (i + 1))) (by rw [hsv]; exact zsm_s (zBT (zV k d) own oth) i) ?_
          refine lv_lstore (lv' := [(7, .long (lN (zsm (zBT (zV k d) own oth) (i + 1)))), (9, .int (nI i)), (0, .ref ax), (1, .long (lN own)), (3, .long (lN oth)), (5, .int (zLd own oth)), (6, .int (nI (d + 1)))]) hx hb dX5_worthToThrow_51 hl (by decide) rfl (fun ls hl => ?_)
          refine lv_iinc (v := nI (i + 1)) (lv' := [(9, .int (nI (i + 1))), (7, .long (lN (zsm (zBT (zV k d) own oth) (i + 1)))), (0, .ref ax), (1, .long (lN own)), (3, .long (lN oth)), (5, .int (zLd own oth)), (6, .int (nI (d + 1)))]) hx hb dX5_worthToThrow_53 hl (k := 1) rfl (nI_1 i) (by decide) rfl (fun ls hl => ?_)
          refine lv_goto (tgt := 20) hx hb dX5_worthToThrow_56 (by decide) ?_
          exact ih20 (i + 1) _ (by omega) rfl (by omega) _ _ hP hS _ (lv_sub hl [0, 1, 2, 3, 4, 5, 6] rfl)
    exact lp 6 0 0 (by omega) rfl (by omega) _ _ hP hS _ (lv_sub hl [0, 1, 2, 3, 4, 5, 6] rfl)
  · skip
    have c_2 : ¬ 0 < (d + 1) := fun h9 => c_2 ((nI_ltI (a := 0) (b := d + 1) (by omega) (by omega)).mpr h9)
    exact absurd (by omega) c_2

theorem c_X5_worthToThrow (l : Launch) (dC : Nat → ClassId) (dI : Nat → Nat → Nat) (cyI cyJ : ClassId) (tb ax a0 a1 ae aw at_ : Nat) (tI mk wn cnt rh : Int32) (wf : Nat → Int32) (k kk : Nat) (hk1 : 1 ≤ k) (hkk : kk ≤ 60) (h40 : 40 ≤ kk) (htb : zTb kk wf) : ∀ d, d ≤ 100 → ∀ own oth : Nat, zok k own → zok k oth → Met l yX5_worthToThrow wsX5_worthToThrow ({ frames := 3 * d + 6, cells := 0, slots := 0, locals := 92 * d + 200 }) (zPc [.ref ax, .long (lN own), .long (lN oth), .int (zLd own oth), .int (nI d)] (dC, dI) vwCl [(cyI, .int)] [(ax, .inr (2, [.ref a0, .ref a1, .ref ae, .ref aw, .int (nI k), .int tI, .int mk, .int wn, .int cnt])), (ae, .inr (0, [.ref at_, .int rh])), (at_, .inl (cyI, 13500, .inl wf))] (fun U => zX tb zF U U.heap)) (va_Qi (fun (r : Int32) (_ : Unit) => r = nI (zV k d own oth)) (fun _ _ => True) zF) 0 0 zF := by
  intro d
  induction d with
  | zero => intro _ own oth hO hQ; exact c_X5_worthToThrow0 l dC dI cyI cyJ tb ax a0 a1 ae aw at_ tI mk wn cnt rh wf k kk hk1 hkk h40 htb own oth hO hQ
  | succ d ih =>
    intro h9 own oth hO hQ
    have hT := ih (by omega)
    have hM : ∀ own oth fr mm : Nat, zok k own → zok k oth → fr ≤ 14 → mm ≤ 4 → zcm own oth fr mm = true → Met l yX5_worthBehindMove wsX5_worthBehindMove ({ frames := 3 * d + 7, cells := 0, slots := 0, locals := 92 * d + 229 }) (zPc [.ref ax, .long (lN own), .long (lN oth), .int (zLd own oth), .int (nI fr), .int (nI mm), .int (nI d)] (dC, dI) vwCl [(cyI, .int)] [(ax, .inr (2, [.ref a0, .ref a1, .ref ae, .ref aw, .int (nI k), .int tI, .int mk, .int wn, .int cnt])), (ae, .inr (0, [.ref at_, .int rh])), (at_, .inl (cyI, 13500, .inl wf))] (fun U => zX tb zF U U.heap)) (va_Qi (fun (r : Int32) (_ : Unit) => r = nI (zBM (zV k d) own oth fr mm)) (fun _ _ => True) zF) 0 0 zF := fun own oth fr mm hO hQ hfr hmm hcm => c_X5_worthBehindMove0 l dC dI cyI cyJ tb ax a0 a1 ae aw at_ tI mk wn cnt rh wf k kk hk1 hkk h40 htb d hT own oth fr mm hO hQ hfr hmm hcm
    exact c_X5_worthToThrow1 l dC dI cyI cyJ tb ax a0 a1 ae aw at_ tI mk wn cnt rh wf k kk hk1 hkk h40 htb d (by omega) (fun own oth mm hO hQ hmm => c_X5_worthBehindThrow0 l dC dI cyI cyJ tb ax a0 a1 ae aw at_ tI mk wn cnt rh wf k kk hk1 hkk h40 htb d hT hM own oth mm hO hQ hmm) own oth hO hQ
theorem c_X5_worthBehindMove (l : Launch) (dC : Nat → ClassId) (dI : Nat → Nat → Nat) (cyI cyJ : ClassId) (tb ax a0 a1 ae aw at_ : Nat) (tI mk wn cnt rh : Int32) (wf : Nat → Int32) (k kk : Nat) (hk1 : 1 ≤ k) (hkk : kk ≤ 60) (h40 : 40 ≤ kk) (htb : zTb kk wf) (d : Nat) (hd9 : d ≤ 100) : ∀ own oth fr mm : Nat, zok k own → zok k oth → fr ≤ 14 → mm ≤ 4 → zcm own oth fr mm = true → Met l yX5_worthBehindMove wsX5_worthBehindMove ({ frames := 3 * d + 7, cells := 0, slots := 0, locals := 92 * d + 229 }) (zPc [.ref ax, .long (lN own), .long (lN oth), .int (zLd own oth), .int (nI fr), .int (nI mm), .int (nI d)] (dC, dI) vwCl [(cyI, .int)] [(ax, .inr (2, [.ref a0, .ref a1, .ref ae, .ref aw, .int (nI k), .int tI, .int mk, .int wn, .int cnt])), (ae, .inr (0, [.ref at_, .int rh])), (at_, .inl (cyI, 13500, .inl wf))] (fun U => zX tb zF U U.heap)) (va_Qi (fun (r : Int32) (_ : Unit) => r = nI (zBM (zV k d) own oth fr mm)) (fun _ _ => True) zF) 0 0 zF := fun own oth fr mm hO hQ hfr hmm hcm => c_X5_worthBehindMove0 l dC dI cyI cyJ tb ax a0 a1 ae aw at_ tI mk wn cnt rh wf k kk hk1 hkk h40 htb d (c_X5_worthToThrow l dC dI cyI cyJ tb ax a0 a1 ae aw at_ tI mk wn cnt rh wf k kk hk1 hkk h40 htb d hd9) own oth fr mm hO hQ hfr hmm hcm
theorem c_X5_worthBehindThrow (l : Launch) (dC : Nat → ClassId) (dI : Nat → Nat → Nat) (cyI cyJ : ClassId) (tb ax a0 a1 ae aw at_ : Nat) (tI mk wn cnt rh : Int32) (wf : Nat → Int32) (k kk : Nat) (hk1 : 1 ≤ k) (hkk : kk ≤ 60) (h40 : 40 ≤ kk) (htb : zTb kk wf) (d : Nat) (hd9 : d ≤ 100) : ∀ own oth mm : Nat, zok k own → zok k oth → mm ≤ 4 → Met l yX5_worthBehindThrow wsX5_worthBehindThrow ({ frames := 3 * d + 8, cells := 0, slots := 0, locals := 92 * d + 263 }) (zPc [.ref ax, .long (lN own), .long (lN oth), .int (zLd own oth), .int (nI mm), .int (nI d)] (dC, dI) vwCl [(cyI, .int)] [(ax, .inr (2, [.ref a0, .ref a1, .ref ae, .ref aw, .int (nI k), .int tI, .int mk, .int wn, .int cnt])), (ae, .inr (0, [.ref at_, .int rh])), (at_, .inl (cyI, 13500, .inl wf))] (fun U => zX tb zF U U.heap)) (va_Qi (fun (r : Int32) (_ : Unit) => r = nI (zBT (zV k d) own oth mm)) (fun _ _ => True) zF) 0 0 zF := fun own oth mm hO hQ hmm => c_X5_worthBehindThrow0 l dC dI cyI cyJ tb ax a0 a1 ae aw at_ tI mk wn cnt rh wf k kk hk1 hkk h40 htb d (c_X5_worthToThrow l dC dI cyI cyJ tb ax a0 a1 ae aw at_ tI mk wn cnt rh wf k kk hk1 hkk h40 htb d hd9) (c_X5_worthBehindMove l dC dI cyI cyJ tb ax a0 a1 ae aw at_ tI mk wn cnt rh wf k kk hk1 hkk h40 htb d hd9) own oth mm hO hQ hmm

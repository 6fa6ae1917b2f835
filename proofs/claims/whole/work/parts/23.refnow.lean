/-! the reference: worths behind moves, now; a new game; endings asked -/
theorem zLB_n {k d own oth mm i : Nat} {g : Nat → Int32} (hg : ∀ j, j < i → g j = zWB k d own oth mm j) (c : zcm own oth i mm = false) : ∀ j, j < i + 1 → upd g i (-1) j = zWB k d own oth mm j := zWB_n hg c
theorem zLB_y {k d own oth mm i : Nat} {g : Nat → Int32} {x : Int32} (hg : ∀ j, j < i → g j = zWB k d own oth mm j) (c : zcm own oth i mm = true) (hx : x = nI (zBM (zV k d) own oth i mm)) : ∀ j, j < i + 1 → upd (upd g i (-1)) i x j = zWB k d own oth mm j := by
  intro j hj
  rcases Nat.lt_or_ge j i with h | h
  · rw [pk_un (by omega), pk_un (by omega)]; exact hg j h
  · rw [show j = i by omega, pk_us, zWB, if_pos c, hx]
theorem zcm_0 (own oth fr : Nat) : zcm own oth fr 0 = false := zcm_no1 (Or.inl rfl)
theorem zmk_0 {mk : Int32} {mm : Nat} (h : zmk mk mm) (hm : mm ≤ 4) (c : mk = -1) : mm = 0 := by
  rcases h with h | h
  · exact absurd (h.symm.trans c) (nI_nm (by omega))
  · exact h.2
theorem zin_b {v : Int32} {n : Nat} (hn : n < 2 ^ 31) (c : (decide (0 ≤ v) && decide (v ≤ nI n)) = true) : ∃ j, j ≤ n ∧ v = nI j := by
  simp only [Bool.and_eq_true, decide_eq_true_eq] at c
  exact (zin_iff hn).mp c
theorem zin_bf {v : Int32} {n : Nat} (hn : n < 2 ^ 31) (c : (decide (0 ≤ v) && decide (v ≤ nI n)) = false) : ¬ (0 ≤ v ∧ v ≤ nI n) := by
  rintro ⟨h1, h2⟩
  rw [decide_eq_true h1, decide_eq_true h2] at c
  cases c
theorem zin_1b {v : Int32} {n : Nat} (hn : n < 2 ^ 31) (c : (decide (1 ≤ v) && decide (v ≤ nI n)) = true) : ∃ j, 1 ≤ j ∧ j ≤ n ∧ v = nI j := by
  simp only [Bool.and_eq_true, decide_eq_true_eq] at c
  exact (zin1_iff hn).mp c
theorem zin_1f {v : Int32} {n : Nat} (c : (decide (1 ≤ v) && decide (v ≤ nI n)) = false) : ¬ (1 ≤ v ∧ v ≤ nI n) := by
  rintro ⟨h1, h2⟩
  rw [decide_eq_true h1, decide_eq_true h2] at c
  cases c
theorem zmost_n {k d own oth mm i : Nat} {x : Nat} (hx : x = zBst (fun fr => zBM (zV k d) own oth fr mm) own oth mm i) (c : ¬ nI x < zWB k d own oth mm i) : x = zBst (fun fr => zBM (zV k d) own oth fr mm) own oth mm (i + 1) := by
  have h1 := zBst_le (g := fun fr => zBM (zV k d) own oth fr mm) (fun a => zBM_le (zV_le k d) _ _ _ _) own oth mm i
  have h2 := zBM_le (zV_le k d) own oth i mm
  rw [zBst_s]
  split
  · rename_i h
    rw [zWB, if_pos h] at c
    have h3 : ¬ x < zBM (zV k d) own oth i mm := fun h9 => c ((nI_ltI (by omega) (by omega)).mpr h9)
    rw [← hx, Nat.max_eq_left (by omega)]
  · exact hx
theorem zmost_y {k d own oth mm i : Nat} {x : Nat} (hx : x = zBst (fun fr => zBM (zV k d) own oth fr mm) own oth mm i) (c : nI x < zWB k d own oth mm i) : ∃ y, y = zBst (fun fr => zBM (zV k d) own oth fr mm) own oth mm (i + 1) ∧ zWB k d own oth mm i = nI y := by
  have h1 := zBst_le (g := fun fr => zBM (zV k d) own oth fr mm) (fun a => zBM_le (zV_le k d) _ _ _ _) own oth mm i
  have h2 := zBM_le (zV_le k d) own oth i mm
  by_cases h : zcm own oth i mm = true
  · rw [zWB, if_pos h] at c ⊢
    have h3 : x < zBM (zV k d) own oth i mm := (nI_ltI (by omega) (by omega)).mp c
    refine ⟨_, ?_, rfl⟩
    rw [zBst_s, if_pos h, ← hx, Nat.max_eq_right (by omega)]
  · exfalso
    rw [zWB, if_neg h, Int32.lt_iff_toInt_lt, nI_toInt (by omega)] at c
    have : (-1 : Int32).toInt = -1 := rfl
    omega
theorem zst_row {j : Nat} (hj : j ≤ 4) {g : Nat → Int32} (h : ∀ q, q < 32 → g q = (if q % 16 = 0 then nI j else 0)) : zRow g 0 0 j j := by
  have key : ∀ p, p < 16 → (if p = 0 then nI j else 0) = nI (dg j p) := by
    intro p hp
    by_cases h0 : p = 0
    · subst h0
      rw [if_pos rfl, dg, Nat.pow_zero, Nat.div_one, Nat.mod_eq_of_lt (by omega)]
    · have h2 : (16 : Nat) ^ 1 ≤ 16 ^ p := Nat.pow_le_pow_right (by decide) (by omega)
      rw [if_neg h0, dg, Nat.div_eq_of_lt (by omega)]
      rfl
  refine ⟨fun p hp => ?_, fun p hp => ?_⟩
  · rw [h _ (by omega), ← key p hp, show (0 + 16 * 0 + p) % 16 = p by omega]
  · rw [h _ (by omega), ← key p hp, show (0 + 16 * (1 - 0) + p) % 16 = p by omega]
theorem zst_s {j i : Nat} {g : Nat → Int32} {x : Int32} (h : ∀ q, q < i → g q = (if q % 16 = 0 then nI j else 0)) (hx : x = (if i % 16 = 0 then nI j else 0)) : ∀ q, q < i + 1 → upd g i x q = (if q % 16 = 0 then nI j else 0) := by
  intro q hq
  rcases Nat.lt_or_ge q i with h1 | h1
  · rw [pk_un (by omega)]; exact h q h1
  · rw [show q = i by omega, pk_us, hx]
set_option maxHeartbeats 4000000 in
set_option maxRecDepth 100000 in
theorem c_X6_layBehind (l : Launch) (dC : Nat → ClassId) (dI : Nat → Nat → Nat) (cyI cyJ : ClassId) (k : Nat) (hk1 : 1 ≤ k) (bx bl ba bt bg be bf bw bs bm bn bb bu bh : Nat) (thr tI wI cI : Int32) (tf ff Af hf : Nat → Int32) (htf : ∀ j, j < 5 → tf j = nI (ztm j)) (hff : zFt 40 ff) (u0 : zU) (sd own oth mm d : Nat) (hd : d ≤ 3) (hsd : sd ≤ 1) (hO : zok k own) (hQ : zok k oth) (hrow : zRow Af 0 sd own oth) (hmk : zmk tI mm) (hmm : mm ≤ 4) (hnd : [bx, ba, bh, bt, bf, bw, bs, bm, bn, bb, bu].Nodup) : Met l yX6_layBehind wsX6_layBehind ({ frames := 5, cells := 0, slots := 0, locals := 118 }) (zPc [.ref bx, .int (nI d)] (dC, dI) vwCl [(cyI, .int), (cyJ, .long)] [(bx, .inr (3, [.int thr, .int (nI k), .int (nI sd), .int tI, .int wI, .int cI, .ref bl, .ref ba, .ref bt, .ref bg, .ref be, .ref bf, .ref bw, .ref bs, .ref bm, .ref bn, .ref bb, .ref bu, .ref bh])), (ba, .inl (cyI, 32, .inl Af)), (bh, .inl (cyI, 15, .inl hf)), (bt, .inl (cyI, 5, .inl tf)), (bf, .inl (cyI, 225, .inl ff)), (bw, .inl (cyI, 160, .inl u0.1)), (bs, .inl (cyI, 5, .inl u0.2.1)), (bm, .inl (cyI, 5, .inl u0.2.2.1)), (bn, .inl (cyI, 5, .inl u0.2.2.2.1)), (bb, .inl (cyI, 5, .inl u0.2.2.2.2.1)), (bu, .inl (cyJ, 5, .inr (.inl u0.2.2.2.2.2)))] (fun _ => True)) (va_Qv (fun (u : (Nat → Int32) × zU) => ∀ j, j < 15 → u.1 j = zWB k d own oth mm j) (fun (u : (Nat → Int32) × zU) t => va_P (dC, dI) vwCl ([(bx, .inr (3, [.int thr, .int (nI k), .int (nI sd), .int tI, .int wI, .int cI, .ref bl, .ref ba, .ref bt, .ref bg, .ref be, .ref bf, .ref bw, .ref bs, .ref bm, .ref bn, .ref bb, .ref bu, .ref bh])), (ba, .inl (cyI, 32, .inl Af)), (bh, .inl (cyI, 15, .inl u.1)), (bt, .inl (cyI, 5, .inl tf)), (bf, .inl (cyI, 225, .inl ff)), (bw, .inl (cyI, 160, .inl u.2.1)), (bs, .inl (cyI, 5, .inl u.2.2.1)), (bm, .inl (cyI, 5, .inl u.2.2.2.1)), (bn, .inl (cyI, 5, .inl u.2.2.2.2.1)), (bb, .inl (cyI, 5, .inl u.2.2.2.2.2.1)), (bu, .inl (cyJ, 5, .inr (.inl u.2.2.2.2.2.2)))]) t.heap) (zA [bx, ba, bh, bt, bf, bw, bs, bm, bn, bb, bu])) 0 0 (zA [bx, ba, bh, bt, bf, bw, bs, bm, bn, bb, bu]) := by
  refine Met.ofW (cc := cX6_layBehind) (maxL := 7) (ret := none) (by decide) rfl ?_
  intro p e s m args below meth c s₁ B hml hv
  obtain ⟨rfl, hP, hK, hX⟩ := hv
  have hx := B.exec
  have hb := B.bytes
  have hr := B.returns
  have hts := atoms_spec (ws := wsX6_layBehind) B.pre
  have hown : s.vm.findClass RX6 = some m.cls := findClass_of_methodNamed B.named
  have hlocks := B.notSynchronized
  have hinX6 : ∀ w ∈ wsX60, w ∈ wsX6_layBehind := by decide +kernel
  have hl := lv_entry ([.ref bx, .int (nI d)]) (n := 7) (Nat.le_of_ble_eq_true rfl)
  rw [lg_entry_eq]
  generalize (lg_sl ([.ref bx, .int (nI d)]) ++ List.replicate (7 - (lg_sl ([.ref bx, .int (nI d)])).length) Slot.unset).toArray = ls at hl ⊢
  have hl : lv_has ls 7 [(0, .ref bx), (1, .int (nI d))] := hl
  have hS : va_S (zA [bx, ba, bh, bt, bf, bw, bs, bm, bn, bb, bu]) s.heap s.heap [] := va_S.rf
  have hDD : zD (zA [bx, ba, bh, bt, bf, bw, bs, bm, bn, bb, bu]) [bx, ba, bh, bt, bf, bw, bs, bm, bn, bb, bu] := ⟨hnd, fun _ h => h⟩
  generalize hQe : MQ below _ _ _ _ _ _ = Q
  refine lv_iconst (v := 0) hx hb dX6_layBehind_0 (by decide) ?_
  refine lv_istore_n (lv' := [(2, .int 0), (0, .ref bx), (1, .int (nI d))]) hx hb dX6_layBehind_1 rfl hl (by decide) rfl (fun ls hl => ?_)
  have lp : ∀ (n9 : Nat) (i : Nat) (g : Nat → Int32) (v : zU), i ≤ 15 → (∀ j, j < i → g j = zWB k d own oth mm j) → 15 - i < n9 → ∀ (H : Heap) (locs : List Loc), va_P (dC, dI) vwCl [(bx, .inr (3, [.int thr, .int (nI k), .int (nI sd), .int tI, .int wI, .int cI, .ref bl, .ref ba, .ref bt, .ref bg, .ref be, .ref bf, .ref bw, .ref bs, .ref bm, .ref bn, .ref bb, .ref bu, .ref bh])), (ba, .inl (cyI, 32, .inl Af)), (bh, .inl (cyI, 15, .inl g)), (bt, .inl (cyI, 5, .inl tf)), (bf, .inl (cyI, 225, .inl ff)), (bw, .inl (cyI, 160, .inl v.1)), (bs, .inl (cyI, 5, .inl v.2.1)), (bm, .inl (cyI, 5, .inl v.2.2.1)), (bn, .inl (cyI, 5, .inl v.2.2.2.1)), (bb, .inl (cyI, 5, .inl v.2.2.2.2.1)), (bu, .inl (cyJ, 5, .inr (.inl v.2.2.2.2.2)))] H → va_S (zA [bx, ba, bh, bt, bf, bw, bs, bm, bn, bb, bu]) s.heap H locs → ∀ ls : Array Slot, lv_has ls 7 [(2, .int (nI i)), (0, .ref bx), (1, .int (nI d))] → W p l e (headSpec wsX6_layBehind ({ frames := 5, cells := 0, slots := 0, locals := 118 })).room s m ([.ref bx, .int (nI d)] : List Value).toArray below meth c H locs 0 0 Q (F0 m 2 ls []) := by
    intro n9
    induction n9 with
    | zero => intro i g v hi2 hg hm9; exact absurd hm9 (Nat.not_lt_zero _)
    | succ n9 ih2 =>
      intro i g v hi2 hg hm9 H locs hP hS ls hl
      refine lv_iload_n hx hb dX6_layBehind_2 rfl (lv_at hl 0 rfl) ?_
      refine lv_bipush (v := 15) hx hb dX6_layBehind_3 (by decide) ?_
      refine lv_icmp_ge (tgt := 176) hx hb dX6_layBehind_5 (by decide) (fun c_5 => ?_) (fun c_5 => ?_)
      · skip
        have c_5 : 15 ≤ i := (nI_leI (a := 15) (b := i) (by omega) (by omega)).mp c_5
        subst hQe
        exact W.vret hx hb hr (fun t ht hW => ⟨⟨(g, v), rfl, (fun j hj => hg j (by omega)), zh ht hP⟩, hS.F ht⟩) hS.2.2 dX6_layBehind_176
      · skip
        have c_5 : ¬ 15 ≤ i := fun h9 => c_5 ((nI_leI (a := 15) (b := i) (by omega) (by omega)).mpr h9)
        refine lv_aload_n hx hb dX6_layBehind_8 rfl (lv_at hl 1 rfl) ?_
        refine va_get (D := (dC, dI)) (ci := 3) (v := .ref bh) (C := RX6) (T := TX6) (N := 19) hx hb hts hinX6 hown hK hP 0 rfl rfl 18 (by decide) (hts (.fieldLink RX6 54 "RoyalUrTableModel" "behind" "[I") (List.mem_of_getElem? (i := 1) rfl)) (fun _ h9 => h9) rfl dX6_layBehind_9 ?_
        refine lv_iload_n hx hb dX6_layBehind_12 rfl (lv_at hl 0 rfl) ?_
        refine lv_iconst (v := -1) hx hb dX6_layBehind_13 (by decide) ?_
        refine zi_iast hx hb hK hP hDD hS 2 0 rfl rfl (j := i) rfl (by omega) (by decide) dX6_layBehind_14 (fun H locs hP hS => ?_)
        have hP : va_P (dC, dI) vwCl [(bx, .inr (3, [.int thr, .int (nI k), .int (nI sd), .int tI, .int wI, .int cI, .ref bl, .ref ba, .ref bt, .ref bg, .ref be, .ref bf, .ref bw, .ref bs, .ref bm, .ref bn, .ref bb, .ref bu, .ref bh])), (ba, .inl (cyI, 32, .inl Af)), (bh, .inl (cyI, 15, .inl (upd g i (-1)))), (bt, .inl (cyI, 5, .inl tf)), (bf, .inl (cyI, 225, .inl ff)), (bw, .inl (cyI, 160, .inl v.1)), (bs, .inl (cyI, 5, .inl v.2.1)), (bm, .inl (cyI, 5, .inl v.2.2.1)), (bn, .inl (cyI, 5, .inl v.2.2.2.1)), (bb, .inl (cyI, 5, .inl v.2.2.2.2.1)), (bu, .inl (cyJ, 5, .inr (.inl v.2.2.2.2.2)))] H := hP
        refine lv_aload_n hx hb dX6_layBehind_15 rfl (lv_at hl 1 rfl) ?_
        refine va_get (D := (dC, dI)) (ci := 3) (v := .int tI) (C := RX6) (T := TX6) (N := 19) hx hb hts hinX6 hown hK hP 0 rfl rfl 3 (by decide) (hts (.fieldLink RX6 9 "RoyalUrTableModel" "told" "I") (List.mem_of_getElem? (i := 2) rfl)) (fun _ h9 => h9) rfl dX6_layBehind_16 ?_
        refine lv_iconst (v := -1) hx hb dX6_layBehind_19 (by decide) ?_
        refine lv_icmp_eq (tgt := 170) hx hb dX6_layBehind_20 (by decide) (fun c_20 => ?_) (fun c_20 => ?_)
        · skip
          refine lv_iinc (v := nI (i + 1)) (lv' := [(2, .int (nI (i + 1))), (0, .ref bx), (1, .int (nI d))]) hx hb dX6_layBehind_170 hl (k := 0) rfl (nI_1 i) (by decide) rfl (fun ls hl => ?_)
          refine lv_goto (tgt := 2) hx hb dX6_layBehind_173 (by decide) ?_
          exact ih2 (i + 1) _ (v.1, v.2.1, v.2.2.1, v.2.2.2.1, v.2.2.2.2.1, v.2.2.2.2.2) (by omega) (zLB_n hg (by rw [zmk_0 hmk hmm c_20]; exact zcm_0 _ _ _)) (by omega) _ _ hP hS _ (lv_sub hl [0, 1, 2] rfl)
        · skip
          refine lv_aload_n hx hb dX6_layBehind_23 rfl (lv_at hl 1 rfl) ?_
          refine va_get (D := (dC, dI)) (ci := 3) (v := .ref ba) (C := RX6) (T := TX6) (N := 19) hx hb hts hinX6 hown hK hP 0 rfl rfl 7 (by decide) (hts (.fieldLink RX6 20 "RoyalUrTableModel" "at" "[I") (List.mem_of_getElem? (i := 3) rfl)) (fun _ h9 => h9) rfl dX6_layBehind_24 ?_
          refine lv_iconst (v := 0) hx hb dX6_layBehind_27 (by decide) ?_
          refine lv_aload_n hx hb dX6_layBehind_28 rfl (lv_at hl 1 rfl) ?_
          refine va_get (D := (dC, dI)) (ci := 3) (v := .int (nI sd)) (C := RX6) (T := TX6) (N := 19) hx hb hts hinX6 hown hK hP 0 rfl rfl 2 (by decide) (hts (.fieldLink RX6 128 "RoyalUrTableModel" "side" "I") (List.mem_of_getElem? (i := 4) rfl)) (fun _ h9 => h9) rfl dX6_layBehind_29 ?_
          refine lv_iload_n hx hb dX6_layBehind_32 rfl (lv_at hl 0 rfl) ?_
          refine lv_aload_n hx hb dX6_layBehind_33 rfl (lv_at hl 1 rfl) ?_
          refine va_get (D := (dC, dI)) (ci := 3) (v := .int tI) (C := RX6) (T := TX6) (N := 19) hx hb hts hinX6 hown hK hP 0 rfl rfl 3 (by decide) (hts (.fieldLink RX6 9 "RoyalUrTableModel" "told" "I") (List.mem_of_getElem? (i := 2) rfl)) (fun _ h9 => h9) rfl dX6_layBehind_34 ?_
          refine zz_i (y := nI mm) (zmk_ne hmk c_20) ?_
          refine zro_i (va_runS (As := [.ref ba, .int 0, .int (nI sd), .int (nI i), .int (nI mm)]) (rest := []) ⟨hx, hb, hml, hown, hts⟩ (c_X6_canMove l dC dI cyI cyJ ba 32 (by omega) Af 0 sd own oth i mm (by omega) hsd hrow (by omega) hmm) (va_cwS 5 hts gX6_layBehind_X6_canMove rfl rfl rfl (by decide +kernel) ⟨Nat.le_of_ble_eq_true rfl, Nat.le_of_ble_eq_true rfl⟩) (zPc_S zB_T hP hK [1] rfl (fun _ _ _ => trivial)) rfl rfl hl.1 rfl (lv_room (Nat.le_of_ble_eq_true rfl)) dX6_layBehind_37 ⟨Nat.zero_le _, Nat.zero_le _⟩) hP hS (fun H locs hP hS => ?_)
          refine lv_if_eq (tgt := 170) hx hb dX6_layBehind_40 (by decide) (fun c_40 => ?_) (fun c_40 => ?_)
          · skip
            have c_40 := bI_0.mp c_40
            refine lv_iinc (v := nI (i + 1)) (lv' := [(2, .int (nI (i + 1))), (0, .ref bx), (1, .int (nI d))]) hx hb dX6_layBehind_170 hl (k := 0) rfl (nI_1 i) (by decide) rfl (fun ls hl => ?_)
            refine lv_goto (tgt := 2) hx hb dX6_layBehind_173 (by decide) ?_
            exact ih2 (i + 1) _ (v.1, v.2.1, v.2.2.1, v.2.2.2.1, v.2.2.2.2.1, v.2.2.2.2.2) (by omega) (zLB_n hg c_40) (by omega) _ _ hP hS _ (lv_sub hl [0, 1, 2] rfl)
          · skip
            have c_40 := bI_1.mp c_40
            obtain ⟨hm0, hd0, hto⟩ := zcm_spec c_40
            have hO2 : zok k (zsh own i (i + mm)) := zok_sh hO hd0 (by omega) (by omega) (by omega)
            have hQ2 : zok k (if ztk oth (i + mm) = true then zsh oth (i + mm) 0 else oth) := zok_tk hQ hto
            have hg0 := dg_lt (zsh own i (i + mm)) 15
            have hk4 := hO.1
            refine lv_aload_n hx hb dX6_layBehind_43 rfl (lv_at hl 1 rfl) ?_
            refine zrw_v (w1 := fun u : Nat → Int32 => [(bx, .inr (3, [.int thr, .int (nI k), .int (nI sd), .int tI, .int wI, .int cI, .ref bl, .ref ba, .ref bt, .ref bg, .ref be, .ref bf, .ref bw, .ref bs, .ref bm, .ref bn, .ref bb, .ref bu, .ref bh])), (ba, .inl (cyI, 32, .inl Af)), (bw, .inl (cyI, 160, .inl u))]) (al := [bx, ba, bw]) (va_runV (As := []) (rest := []) ⟨hx, hb, hml, hown, hts⟩ (c_X6_lays l dC dI cyI cyJ k bx bl ba bt bg be bf bw bs bm bn bb bu bh thr (nI sd) tI wI cI v.1 Af (z_nd hDD.1 [0, 1, 5] (by decide) rfl)) (cwV 0 hts gX6_layBehind_X6_lays rfl rfl rfl (by decide +kernel) ⟨Nat.le_of_ble_eq_true rfl, Nat.le_of_ble_eq_true rfl⟩) (zPc_V (ci := 3) (q0 := 0) zB_T hP hK rfl rfl [0, 1, 5] rfl (fun _ _ _ => trivial)) rfl rfl hl.1 rfl (lv_room (Nat.le_of_ble_eq_true rfl)) dX6_layBehind_44 ⟨Nat.zero_le _, Nat.zero_le _⟩) hP hDD hS [0, 1, 5] rfl (fun _ => rfl) (fun u_44 H locs hw_44 hP hS => ?_)
            have hP : va_P (dC, dI) vwCl [(bx, .inr (3, [.int thr, .int (nI k), .int (nI sd), .int tI, .int wI, .int cI, .ref bl, .ref ba, .ref bt, .ref bg, .ref be, .ref bf, .ref bw, .ref bs, .ref bm, .ref bn, .ref bb, .ref bu, .ref bh])), (ba, .inl (cyI, 32, .inl Af)), (bh, .inl (cyI, 15, .inl (upd g i (-1)))), (bt, .inl (cyI, 5, .inl tf)), (bf, .inl (cyI, 225, .inl ff)), (bw, .inl (cyI, 160, .inl u_44)), (bs, .inl (cyI, 5, .inl v.2.1)), (bm, .inl (cyI, 5, .inl v.2.2.1)), (bn, .inl (cyI, 5, .inl v.2.2.2.1)), (bb, .inl (cyI, 5, .inl v.2.2.2.2.1)), (bu, .inl (cyJ, 5, .inr (.inl v.2.2.2.2.2)))] H := hP
            refine lv_aload_n hx hb dX6_layBehind_47 rfl (lv_at hl 1 rfl) ?_
            refine va_get (D := (dC, dI)) (ci := 3) (v := .ref bw) (C := RX6) (T := TX6) (N := 19) hx hb hts hinX6 hown hK hP 0 rfl rfl 12 (by decide) (hts (.fieldLink RX6 35 "RoyalUrTableModel" "walk" "[I") (List.mem_of_getElem? (i := 5) rfl)) (fun _ h9 => h9) rfl dX6_layBehind_48 ?_
            refine lv_iconst (v := 0) hx hb dX6_layBehind_51 (by decide) ?_
            refine lv_aload_n hx hb dX6_layBehind_52 rfl (lv_at hl 1 rfl) ?_
            refine va_get (D := (dC, dI)) (ci := 3) (v := .int (nI sd)) (C := RX6) (T := TX6) (N := 19) hx hb hts hinX6 hown hK hP 0 rfl rfl 2 (by decide) (hts (.fieldLink RX6 128 "RoyalUrTableModel" "side" "I") (List.mem_of_getElem? (i := 4) rfl)) (fun _ h9 => h9) rfl dX6_layBehind_53 ?_
            refine lv_iload_n hx hb dX6_layBehind_56 rfl (lv_at hl 0 rfl) ?_
            refine lv_aload_n hx hb dX6_layBehind_57 rfl (lv_at hl 1 rfl) ?_
            refine va_get (D := (dC, dI)) (ci := 3) (v := .int tI) (C := RX6) (T := TX6) (N := 19) hx hb hts hinX6 hown hK hP 0 rfl rfl 3 (by decide) (hts (.fieldLink RX6 9 "RoyalUrTableModel" "told" "I") (List.mem_of_getElem? (i := 2) rfl)) (fun _ h9 => h9) rfl dX6_layBehind_58 ?_
            refine zz_i (y := nI mm) (zmk_ne hmk c_20) ?_
            refine zrw_i (w1 := fun u : Nat → Int32 => [(bw, .inl (cyI, 160, .inl u))]) (al := [bw]) (va_runS (As := [.ref bw, .int 0, .int (nI sd), .int (nI i), .int (nI mm)]) (rest := []) ⟨hx, hb, hml, hown, hts⟩ (c_X6_shifts l dC dI cyI cyJ bw 160 (by omega) u_44 k 0 sd own oth i mm (by omega) hsd (zRow_cg hsd hrow (fun q _ h2 => hw_44 q (by omega))) hO hQ (by omega) hmm c_40 (z_nd hDD.1 [5] (by decide) rfl)) (va_cwS 5 hts gX6_layBehind_X6_shifts rfl rfl rfl (by decide +kernel) ⟨Nat.le_of_ble_eq_true rfl, Nat.le_of_ble_eq_true rfl⟩) (zPc_S zB_T hP hK [5] rfl (fun _ _ _ => trivial)) rfl rfl hl.1 rfl (lv_room (Nat.le_of_ble_eq_true rfl)) dX6_layBehind_61 ⟨Nat.zero_le _, Nat.zero_le _⟩) hP hDD hS [5] rfl (fun _ => rfl) (fun r_61 u_61 H locs hw_61 hP hS => ?_)
            have hP : va_P (dC, dI) vwCl [(bx, .inr (3, [.int thr, .int (nI k), .int (nI sd), .int tI, .int wI, .int cI, .ref bl, .ref ba, .ref bt, .ref bg, .ref be, .ref bf, .ref bw, .ref bs, .ref bm, .ref bn, .ref bb, .ref bu, .ref bh])), (ba, .inl (cyI, 32, .inl Af)), (bh, .inl (cyI, 15, .inl (upd g i (-1)))), (bt, .inl (cyI, 5, .inl tf)), (bf, .inl (cyI, 225, .inl ff)), (bw, .inl (cyI, 160, .inl u_61)), (bs, .inl (cyI, 5, .inl v.2.1)), (bm, .inl (cyI, 5, .inl v.2.2.1)), (bn, .inl (cyI, 5, .inl v.2.2.2.1)), (bb, .inl (cyI, 5, .inl v.2.2.2.2.1)), (bu, .inl (cyJ, 5, .inr (.inl v.2.2.2.2.2)))] H := hP
            refine lv_istore_n (lv' := [(3, .int r_61), (2, .int (nI i)), (0, .ref bx), (1, .int (nI d))]) hx hb dX6_layBehind_64 rfl hl (by decide) rfl (fun ls hl => ?_)
            refine lv_iload_n hx hb dX6_layBehind_65 rfl (lv_at hl 1 rfl) ?_
            refine lv_aload_n hx hb dX6_layBehind_66 rfl (lv_at hl 2 rfl) ?_
            refine va_get (D := (dC, dI)) (ci := 3) (v := .int tI) (C := RX6) (T := TX6) (N := 19) hx hb hts hinX6 hown hK hP 0 rfl rfl 3 (by decide) (hts (.fieldLink RX6 9 "RoyalUrTableModel" "told" "I") (List.mem_of_getElem? (i := 2) rfl)) (fun _ h9 => h9) rfl dX6_layBehind_67 ?_
            refine zz_i (y := nI mm) (zmk_ne hmk c_20) ?_
            refine lv_iadd hx hb dX6_layBehind_70 ?_
            refine zz_i (y := nI (i + mm)) (nI_add i mm) ?_
            refine zro_i (va_runS (As := [.int (nI (i + mm))]) (rest := []) ⟨hx, hb, hml, hown, hts⟩ (c_X6_isRosette l (i + mm) (by omega)) (va_cwS 1 hts gX6_layBehind_X6_isRosette rfl rfl rfl (by decide +kernel) ⟨Nat.le_of_ble_eq_true rfl, Nat.le_of_ble_eq_true rfl⟩) zPu rfl rfl hl.1 rfl (lv_room (Nat.le_of_ble_eq_true rfl)) dX6_layBehind_71 ⟨Nat.zero_le _, Nat.zero_le _⟩) hP hS (fun H locs hP hS => ?_)
            refine lv_if_eq (tgt := 84) hx hb dX6_layBehind_74 (by decide) (fun c_74 => ?_) (fun c_74 => ?_)
            · skip
              have c_74 := bI_0.mp c_74
              refine lv_iconst (v := 1) hx hb dX6_layBehind_84 (by decide) ?_
              refine lv_aload_n hx hb dX6_layBehind_85 rfl (lv_at hl 2 rfl) ?_
              refine va_get (D := (dC, dI)) (ci := 3) (v := .int (nI sd)) (C := RX6) (T := TX6) (N := 19) hx hb hts hinX6 hown hK hP 0 rfl rfl 2 (by decide) (hts (.fieldLink RX6 128 "RoyalUrTableModel" "side" "I") (List.mem_of_getElem? (i := 4) rfl)) (fun _ h9 => h9) rfl dX6_layBehind_86 ?_
              refine lv_isub hx hb dX6_layBehind_89 ?_
              refine zz_i (y := nI (1 - sd)) (pk_sub (a := 1) (b := sd) (by omega)) ?_
              refine lv_istore (lv' := [(4, .int (nI (1 - sd))), (3, .int r_61), (2, .int (nI i)), (0, .ref bx), (1, .int (nI d))]) hx hb dX6_layBehind_90 hl (by decide) rfl (fun ls hl => ?_)
              refine lv_aload_n hx hb dX6_layBehind_92 rfl (lv_at hl 3 rfl) ?_
              refine va_get (D := (dC, dI)) (ci := 3) (v := .ref bw) (C := RX6) (T := TX6) (N := 19) hx hb hts hinX6 hown hK hP 0 rfl rfl 12 (by decide) (hts (.fieldLink RX6 35 "RoyalUrTableModel" "walk" "[I") (List.mem_of_getElem? (i := 5) rfl)) (fun _ h9 => h9) rfl dX6_layBehind_93 ?_
              refine lv_bipush (v := 16) hx hb dX6_layBehind_96 (by decide) ?_
              refine lv_aload_n hx hb dX6_layBehind_98 rfl (lv_at hl 3 rfl) ?_
              refine va_get (D := (dC, dI)) (ci := 3) (v := .int (nI sd)) (C := RX6) (T := TX6) (N := 19) hx hb hts hinX6 hown hK hP 0 rfl rfl 2 (by decide) (hts (.fieldLink RX6 128 "RoyalUrTableModel" "side" "I") (List.mem_of_getElem? (i := 4) rfl)) (fun _ h9 => h9) rfl dX6_layBehind_99 ?_
              refine lv_imul hx hb dX6_layBehind_102 ?_
              refine zz_i (y := nI (16 * sd)) (pk_mul 16 sd) ?_
              refine lv_bipush (v := 15) hx hb dX6_layBehind_103 (by decide) ?_
              refine lv_iadd hx hb dX6_layBehind_105 ?_
              refine zz_i (y := nI (16 * sd + 15)) (nI_add (16 * sd) 15) ?_
              refine zi_iald hx hb hK hP 5 0 rfl rfl (j := 16 * sd + 15) rfl (by omega) (by decide) dX6_layBehind_106 ?_
              refine zz_i (y := nI (dg (zsh own i (i + mm)) 15)) (by rw [show 16 * sd + 15 = 0 + 16 * sd + 15 by omega]; exact hw_61.2.1.1 15 (by omega)) ?_
              refine lv_aload_n hx hb dX6_layBehind_107 rfl (lv_at hl 3 rfl) ?_
              refine va_get (D := (dC, dI)) (ci := 3) (v := .int (nI k)) (C := RX6) (T := TX6) (N := 19) hx hb hts hinX6 hown hK hP 0 rfl rfl 1 (by decide) (hts (.fieldLink RX6 90 "RoyalUrTableModel" "pieces" "I") (List.mem_of_getElem? (i := 6) rfl)) (fun _ h9 => h9) rfl dX6_layBehind_108 ?_
              refine lv_icmp_ne (tgt := 118) hx hb dX6_layBehind_111 (by decide) (fun c_111 => ?_) (fun c_111 => ?_)
              · skip
                have c_111 : ¬ (dg (zsh own i (i + mm)) 15) = k := fun h9 => c_111 ((nI_eq (a := dg (zsh own i (i + mm)) 15) (b := k) (by omega) (by omega)).mpr h9)
                refine lv_iconst (v := 0) hx hb dX6_layBehind_118 (by decide) ?_
                refine lv_istore (lv' := [(5, .int 0), (4, .int (nI (1 - sd))), (3, .int r_61), (2, .int (nI i)), (0, .ref bx), (1, .int (nI d))]) hx hb dX6_layBehind_119 hl (by decide) rfl (fun ls hl => ?_)
                refine lv_iload hx hb dX6_layBehind_121 (lv_at hl 0 rfl) ?_
                refine lv_if_eq (tgt := 131) hx hb dX6_layBehind_123 (by decide) (fun _ => ?_) (fun c9 => absurd c9 (by decide))
                refine lv_aload_n hx hb dX6_layBehind_131 rfl (lv_at hl 4 rfl) ?_
                refine lv_iload hx hb dX6_layBehind_132 (lv_at hl 1 rfl) ?_
                refine lv_iload_n hx hb dX6_layBehind_134 rfl (lv_at hl 5 rfl) ?_
                refine zrw_i (w1 := fun u : zU => [(bx, .inr (3, [.int thr, .int (nI k), .int (nI sd), .int tI, .int wI, .int cI, .ref bl, .ref ba, .ref bt, .ref bg, .ref be, .ref bf, .ref bw, .ref bs, .ref bm, .ref bn, .ref bb, .ref bu, .ref bh])), (bt, .inl (cyI, 5, .inl tf)), (bf, .inl (cyI, 225, .inl ff)), (bw, .inl (cyI, 160, .inl u.1)), (bs, .inl (cyI, 5, .inl u.2.1)), (bm, .inl (cyI, 5, .inl u.2.2.1)), (bn, .inl (cyI, 5, .inl u.2.2.2.1)), (bb, .inl (cyI, 5, .inl u.2.2.2.2.1)), (bu, .inl (cyJ, 5, .inr (.inl u.2.2.2.2.2)))]) (al := [bx, bt, bf, bw, bs, bm, bn, bb, bu]) (va_runV (As := [.int (nI (1 - sd)), .int (nI d)]) (rest := []) ⟨hx, hb, hml, hown, hts⟩ (c_X6_worthOf l dC dI cyI cyJ k hk1 bx bl ba bt bg be bf bw bs bm bn bb bu bh thr (nI sd) tI wI cI tf ff htf hff (u_61, v.2.1, v.2.2.1, v.2.2.2.1, v.2.2.2.2.1, v.2.2.2.2.2) (1 - sd) (if ztk oth (i + mm) = true then zsh oth (i + mm) 0 else oth) (zsh own i (i + mm)) d hd (by omega) hQ2 hO2 (hw_61.2.1.sw hsd) (nI (1 - sd)) rfl (z_nd hDD.1 [0, 3, 4, 5, 6, 7, 8, 9, 10] (by decide) rfl)) (cwV 2 hts gX6_layBehind_X6_worthOf rfl rfl rfl (by decide +kernel) ⟨Nat.le_of_ble_eq_true rfl, Nat.le_of_ble_eq_true rfl⟩) (zPc_V (ci := 3) (q0 := 0) zB_T hP hK rfl rfl [0, 3, 4, 5, 6, 7, 8, 9, 10] rfl (fun _ _ _ => trivial)) rfl rfl hl.1 rfl (lv_room (Nat.le_of_ble_eq_true rfl)) dX6_layBehind_135 ⟨Nat.zero_le _, Nat.zero_le _⟩) hP hDD hS [0, 3, 4, 5, 6, 7, 8, 9, 10] rfl (fun _ => rfl) (fun r_135 u_135 H locs hw_135 hP hS => ?_)
                have hP : va_P (dC, dI) vwCl [(bx, .inr (3, [.int thr, .int (nI k), .int (nI sd), .int tI, .int wI, .int cI, .ref bl, .ref ba, .ref bt, .ref bg, .ref be, .ref bf, .ref bw, .ref bs, .ref bm, .ref bn, .ref bb, .ref bu, .ref bh])), (ba, .inl (cyI, 32, .inl Af)), (bh, .inl (cyI, 15, .inl (upd g i (-1)))), (bt, .inl (cyI, 5, .inl tf)), (bf, .inl (cyI, 225, .inl ff)), (bw, .inl (cyI, 160, .inl u_135.1)), (bs, .inl (cyI, 5, .inl u_135.2.1)), (bm, .inl (cyI, 5, .inl u_135.2.2.1)), (bn, .inl (cyI, 5, .inl u_135.2.2.2.1)), (bb, .inl (cyI, 5, .inl u_135.2.2.2.2.1)), (bu, .inl (cyJ, 5, .inr (.inl u_135.2.2.2.2.2)))] H := hP
                refine zz_i (y := nI (zV k d (if ztk oth (i + mm) = true then zsh oth (i + mm) 0 else oth) (zsh own i (i + mm)))) hw_135 ?_
                refine lv_istore (lv' := [(6, .int (nI (zV k d (if ztk oth (i + mm) = true then zsh oth (i + mm) 0 else oth) (zsh own i (i + mm))))), (5, .int 0), (4, .int (nI (1 - sd))), (3, .int r_61), (2, .int (nI i)), (0, .ref bx), (1, .int (nI d))]) hx hb dX6_layBehind_138 hl (by decide) rfl (fun ls hl => ?_)
                refine lv_aload_n hx hb dX6_layBehind_140 rfl (lv_at hl 5 rfl) ?_
                refine va_get (D := (dC, dI)) (ci := 3) (v := .ref bh) (C := RX6) (T := TX6) (N := 19) hx hb hts hinX6 hown hK hP 0 rfl rfl 18 (by decide) (hts (.fieldLink RX6 54 "RoyalUrTableModel" "behind" "[I") (List.mem_of_getElem? (i := 1) rfl)) (fun _ h9 => h9) rfl dX6_layBehind_141 ?_
                refine lv_iload_n hx hb dX6_layBehind_144 rfl (lv_at hl 4 rfl) ?_
                refine lv_iload hx hb dX6_layBehind_145 (lv_at hl 1 rfl) ?_
                refine lv_if_ne (tgt := 159) hx hb dX6_layBehind_147 (by decide) (fun c9 => absurd c9 (by decide)) (fun _ => ?_)
                refine lv_iload hx hb dX6_layBehind_150 (lv_at hl 2 rfl) ?_
                refine lv_aload_n hx hb dX6_layBehind_152 rfl (lv_at hl 5 rfl) ?_
                refine va_get (D := (dC, dI)) (ci := 3) (v := .int (nI sd)) (C := RX6) (T := TX6) (N := 19) hx hb hts hinX6 hown hK hP 0 rfl rfl 2 (by decide) (hts (.fieldLink RX6 128 "RoyalUrTableModel" "side" "I") (List.mem_of_getElem? (i := 4) rfl)) (fun _ h9 => h9) rfl dX6_layBehind_153 ?_
                refine lv_icmp_ne (tgt := 164) hx hb dX6_layBehind_156 (by decide) (fun c_156 => ?_) (fun c_156 => ?_)
                · skip
                  have c_156 : ¬ (1 - sd) = sd := fun h9 => c_156 ((nI_eq (a := 1 - sd) (b := sd) (by omega) (by omega)).mpr h9)
                  refine lv_ldc (v := 1000000000) hx hb hown (hts (.constant RX6 71 (1000000000)) (List.mem_of_getElem? (i := 7) rfl)) dX6_layBehind_164 ?_
                  refine lv_iload hx hb dX6_layBehind_166 (lv_at hl 0 rfl) ?_
                  refine lv_isub hx hb dX6_layBehind_168 ?_
                  refine zz_i (y := nI (1000000000 - zV k d (if ztk oth (i + mm) = true then zsh oth (i + mm) 0 else oth) (zsh own i (i + mm)))) (zsubW (zV_le _ _ _ _)) ?_
                  refine zi_iast hx hb hK hP hDD hS 2 0 rfl rfl (j := i) rfl (by omega) (by decide) dX6_layBehind_169 (fun H locs hP hS => ?_)
                  have hP : va_P (dC, dI) vwCl [(bx, .inr (3, [.int thr, .int (nI k), .int (nI sd), .int tI, .int wI, .int cI, .ref bl, .ref ba, .ref bt, .ref bg, .ref be, .ref bf, .ref bw, .ref bs, .ref bm, .ref bn, .ref bb, .ref bu, .ref bh])), (ba, .inl (cyI, 32, .inl Af)), (bh, .inl (cyI, 15, .inl (upd (upd g i (-1)) i (nI (1000000000 - zV k d (if ztk oth (i + mm) = true then zsh oth (i + mm) 0 else oth) (zsh own i (i + mm))))))), (bt, .inl (cyI, 5, .inl tf)), (bf, .inl (cyI, 225, .inl ff)), (bw, .inl (cyI, 160, .inl u_135.1)), (bs, .inl (cyI, 5, .inl u_135.2.1)), (bm, .inl (cyI, 5, .inl u_135.2.2.1)), (bn, .inl (cyI, 5, .inl u_135.2.2.2.1)), (bb, .inl (cyI, 5, .inl u_135.2.2.2.2.1)), (bu, .inl (cyJ, 5, .inr (.inl u_135.2.2.2.2.2)))] H := hP
                  refine lv_iinc (v := nI (i + 1)) (lv' := [(2, .int (nI (i + 1))), (6, .int (nI (zV k d (if ztk oth (i + mm) = true then zsh oth (i + mm) 0 else oth) (zsh own i (i + mm))))), (5, .int 0), (4, .int (nI (1 - sd))), (3, .int r_61), (0, .ref bx), (1, .int (nI d))]) hx hb dX6_layBehind_170 hl (k := 4) rfl (nI_1 i) (by decide) rfl (fun ls hl => ?_)
                  refine lv_goto (tgt := 2) hx hb dX6_layBehind_173 (by decide) ?_
                  exact ih2 (i + 1) _ (u_135.1, u_135.2.1, u_135.2.2.1, u_135.2.2.2.1, u_135.2.2.2.2.1, u_135.2.2.2.2.2) (by omega) (zLB_y hg c_40 (by rw [zBM_o (zhome_n hO2 c_111) c_74])) (by omega) _ _ hP hS _ (lv_sub hl [0, 5, 6] rfl)
                · skip
                  have c_156 : (1 - sd) = sd := (nI_eq (a := 1 - sd) (b := sd) (by omega) (by omega)).mp c_156
                  exact absurd c_156 (by omega)
              · skip
                have c_111 : (dg (zsh own i (i + mm)) 15) = k := (nI_eq (a := dg (zsh own i (i + mm)) 15) (b := k) (by omega) (by omega)).mp c_111
                refine lv_iconst (v := 1) hx hb dX6_layBehind_114 (by decide) ?_
                refine lv_goto (tgt := 119) hx hb dX6_layBehind_115 (by decide) ?_
                refine lv_istore (lv' := [(5, .int 1), (4, .int (nI (1 - sd))), (3, .int r_61), (2, .int (nI i)), (0, .ref bx), (1, .int (nI d))]) hx hb dX6_layBehind_119 hl (by decide) rfl (fun ls hl => ?_)
                refine lv_iload hx hb dX6_layBehind_121 (lv_at hl 0 rfl) ?_
                refine lv_if_eq (tgt := 131) hx hb dX6_layBehind_123 (by decide) (fun c9 => absurd c9 (by decide)) (fun _ => ?_)
                refine lv_ldc (v := 1000000000) hx hb hown (hts (.constant RX6 71 (1000000000)) (List.mem_of_getElem? (i := 7) rfl)) dX6_layBehind_126 ?_
                refine lv_goto (tgt := 138) hx hb dX6_layBehind_128 (by decide) ?_
                refine lv_istore (lv' := [(6, .int 1000000000), (5, .int 1), (4, .int (nI (1 - sd))), (3, .int r_61), (2, .int (nI i)), (0, .ref bx), (1, .int (nI d))]) hx hb dX6_layBehind_138 hl (by decide) rfl (fun ls hl => ?_)
                refine lv_aload_n hx hb dX6_layBehind_140 rfl (lv_at hl 5 rfl) ?_
                refine va_get (D := (dC, dI)) (ci := 3) (v := .ref bh) (C := RX6) (T := TX6) (N := 19) hx hb hts hinX6 hown hK hP 0 rfl rfl 18 (by decide) (hts (.fieldLink RX6 54 "RoyalUrTableModel" "behind" "[I") (List.mem_of_getElem? (i := 1) rfl)) (fun _ h9 => h9) rfl dX6_layBehind_141 ?_
                refine lv_iload_n hx hb dX6_layBehind_144 rfl (lv_at hl 4 rfl) ?_
                refine lv_iload hx hb dX6_layBehind_145 (lv_at hl 1 rfl) ?_
                refine lv_if_ne (tgt := 159) hx hb dX6_layBehind_147 (by decide) (fun _ => ?_) (fun c9 => absurd c9 (by decide))
                refine lv_iload hx hb dX6_layBehind_159 (lv_at hl 0 rfl) ?_
                refine lv_goto (tgt := 169) hx hb dX6_layBehind_161 (by decide) ?_
                refine zi_iast hx hb hK hP hDD hS 2 0 rfl rfl (j := i) rfl (by omega) (by decide) dX6_layBehind_169 (fun H locs hP hS => ?_)
                have hP : va_P (dC, dI) vwCl [(bx, .inr (3, [.int thr, .int (nI k), .int (nI sd), .int tI, .int wI, .int cI, .ref bl, .ref ba, .ref bt, .ref bg, .ref be, .ref bf, .ref bw, .ref bs, .ref bm, .ref bn, .ref bb, .ref bu, .ref bh])), (ba, .inl (cyI, 32, .inl Af)), (bh, .inl (cyI, 15, .inl (upd (upd g i (-1)) i 1000000000))), (bt, .inl (cyI, 5, .inl tf)), (bf, .inl (cyI, 225, .inl ff)), (bw, .inl (cyI, 160, .inl u_61)), (bs, .inl (cyI, 5, .inl v.2.1)), (bm, .inl (cyI, 5, .inl v.2.2.1)), (bn, .inl (cyI, 5, .inl v.2.2.2.1)), (bb, .inl (cyI, 5, .inl v.2.2.2.2.1)), (bu, .inl (cyJ, 5, .inr (.inl v.2.2.2.2.2)))] H := hP
                refine lv_iinc (v := nI (i + 1)) (lv' := [(2, .int (nI (i + 1))), (6, .int 1000000000), (5, .int 1), (4, .int (nI (1 - sd))), (3, .int r_61), (0, .ref bx), (1, .int (nI d))]) hx hb dX6_layBehind_170 hl (k := 4) rfl (nI_1 i) (by decide) rfl (fun ls hl => ?_)
                refine lv_goto (tgt := 2) hx hb dX6_layBehind_173 (by decide) ?_
                exact ih2 (i + 1) _ (u_61, v.2.1, v.2.2.1, v.2.2.2.1, v.2.2.2.2.1, v.2.2.2.2.2) (by omega) (zLB_y hg c_40 (by rw [zBM, if_pos ((zhome_iff hO2).mpr c_111)]; rfl)) (by omega) _ _ hP hS _ (lv_sub hl [0, 5, 6] rfl)
            · skip
              have c_74 := bI_1.mp c_74
              refine lv_aload_n hx hb dX6_layBehind_77 rfl (lv_at hl 2 rfl) ?_
              refine va_get (D := (dC, dI)) (ci := 3) (v := .int (nI sd)) (C := RX6) (T := TX6) (N := 19) hx hb hts hinX6 hown hK hP 0 rfl rfl 2 (by decide) (hts (.fieldLink RX6 128 "RoyalUrTableModel" "side" "I") (List.mem_of_getElem? (i := 4) rfl)) (fun _ h9 => h9) rfl dX6_layBehind_78 ?_
              refine lv_goto (tgt := 90) hx hb dX6_layBehind_81 (by decide) ?_
              refine lv_istore (lv' := [(4, .int (nI sd)), (3, .int r_61), (2, .int (nI i)), (0, .ref bx), (1, .int (nI d))]) hx hb dX6_layBehind_90 hl (by decide) rfl (fun ls hl => ?_)
              refine lv_aload_n hx hb dX6_layBehind_92 rfl (lv_at hl 3 rfl) ?_
              refine va_get (D := (dC, dI)) (ci := 3) (v := .ref bw) (C := RX6) (T := TX6) (N := 19) hx hb hts hinX6 hown hK hP 0 rfl rfl 12 (by decide) (hts (.fieldLink RX6 35 "RoyalUrTableModel" "walk" "[I") (List.mem_of_getElem? (i := 5) rfl)) (fun _ h9 => h9) rfl dX6_layBehind_93 ?_
              refine lv_bipush (v := 16) hx hb dX6_layBehind_96 (by decide) ?_
              refine lv_aload_n hx hb dX6_layBehind_98 rfl (lv_at hl 3 rfl) ?_
              refine va_get (D := (dC, dI)) (ci := 3) (v := .int (nI sd)) (C := RX6) (T := TX6) (N := 19) hx hb hts hinX6 hown hK hP 0 rfl rfl 2 (by decide) (hts (.fieldLink RX6 128 "RoyalUrTableModel" "side" "I") (List.mem_of_getElem? (i := 4) rfl)) (fun _ h9 => h9) rfl dX6_layBehind_99 ?_
              refine lv_imul hx hb dX6_layBehind_102 ?_
              refine zz_i (y := nI (16 * sd)) (pk_mul 16 sd) ?_
              refine lv_bipush (v := 15) hx hb dX6_layBehind_103 (by decide) ?_
              refine lv_iadd hx hb dX6_layBehind_105 ?_
              refine zz_i (y := nI (16 * sd + 15)) (nI_add (16 * sd) 15) ?_
              refine zi_iald hx hb hK hP 5 0 rfl rfl (j := 16 * sd + 15) rfl (by omega) (by decide) dX6_layBehind_106 ?_
              refine zz_i (y := nI (dg (zsh own i (i + mm)) 15)) (by rw [show 16 * sd + 15 = 0 + 16 * sd + 15 by omega]; exact hw_61.2.1.1 15 (by omega)) ?_
              refine lv_aload_n hx hb dX6_layBehind_107 rfl (lv_at hl 3 rfl) ?_
              refine va_get (D := (dC, dI)) (ci := 3) (v := .int (nI k)) (C := RX6) (T := TX6) (N := 19) hx hb hts hinX6 hown hK hP 0 rfl rfl 1 (by decide) (hts (.fieldLink RX6 90 "RoyalUrTableModel" "pieces" "I") (List.mem_of_getElem? (i := 6) rfl)) (fun _ h9 => h9) rfl dX6_layBehind_108 ?_
              refine lv_icmp_ne (tgt := 118) hx hb dX6_layBehind_111 (by decide) (fun c_111 => ?_) (fun c_111 => ?_)
              · skip
                have c_111 : ¬ (dg (zsh own i (i + mm)) 15) = k := fun h9 => c_111 ((nI_eq (a := dg (zsh own i (i + mm)) 15) (b := k) (by omega) (by omega)).mpr h9)
                refine lv_iconst (v := 0) hx hb dX6_layBehind_118 (by decide) ?_
                refine lv_istore (lv' := [(5, .int 0), (4, .int (nI sd)), (3, .int r_61), (2, .int (nI i)), (0, .ref bx), (1, .int (nI d))]) hx hb dX6_layBehind_119 hl (by decide) rfl (fun ls hl => ?_)
                refine lv_iload hx hb dX6_layBehind_121 (lv_at hl 0 rfl) ?_
                refine lv_if_eq (tgt := 131) hx hb dX6_layBehind_123 (by decide) (fun _ => ?_) (fun c9 => absurd c9 (by decide))
                refine lv_aload_n hx hb dX6_layBehind_131 rfl (lv_at hl 4 rfl) ?_
                refine lv_iload hx hb dX6_layBehind_132 (lv_at hl 1 rfl) ?_
                refine lv_iload_n hx hb dX6_layBehind_134 rfl (lv_at hl 5 rfl) ?_
                refine zrw_i (w1 := fun u : zU => [(bx, .inr (3, [.int thr, .int (nI k), .int (nI sd), .int tI, .int wI, .int cI, .ref bl, .ref ba, .ref bt, .ref bg, .ref be, .ref bf, .ref bw, .ref bs, .ref bm, .ref bn, .ref bb, .ref bu, .ref bh])), (bt, .inl (cyI, 5, .inl tf)), (bf, .inl (cyI, 225, .inl ff)), (bw, .inl (cyI, 160, .inl u.1)), (bs, .inl (cyI, 5, .inl u.2.1)), (bm, .inl (cyI, 5, .inl u.2.2.1)), (bn, .inl (cyI, 5, .inl u.2.2.2.1)), (bb, .inl (cyI, 5, .inl u.2.2.2.2.1)), (bu, .inl (cyJ, 5, .inr (.inl u.2.2.2.2.2)))]) (al := [bx, bt, bf, bw, bs, bm, bn, bb, bu]) (va_runV (As := [.int (nI sd), .int (nI d)]) (rest := []) ⟨hx, hb, hml, hown, hts⟩ (c_X6_worthOf l dC dI cyI cyJ k hk1 bx bl ba bt bg be bf bw bs bm bn bb bu bh thr (nI sd) tI wI cI tf ff htf hff (u_61, v.2.1, v.2.2.1, v.2.2.2.1, v.2.2.2.2.1, v.2.2.2.2.2) sd (zsh own i (i + mm)) (if ztk oth (i + mm) = true then zsh oth (i + mm) 0 else oth) d hd hsd hO2 hQ2 hw_61.2.1 (nI sd) rfl (z_nd hDD.1 [0, 3, 4, 5, 6, 7, 8, 9, 10] (by decide) rfl)) (cwV 2 hts gX6_layBehind_X6_worthOf rfl rfl rfl (by decide +kernel) ⟨Nat.le_of_ble_eq_true rfl, Nat.le_of_ble_eq_true rfl⟩) (zPc_V (ci := 3) (q0 := 0) zB_T hP hK rfl rfl [0, 3, 4, 5, 6, 7, 8, 9, 10] rfl (fun _ _ _ => trivial)) rfl rfl hl.1 rfl (lv_room (Nat.le_of_ble_eq_true rfl)) dX6_layBehind_135 ⟨Nat.zero_le _, Nat.zero_le _⟩) hP hDD hS [0, 3, 4, 5, 6, 7, 8, 9, 10] rfl (fun _ => rfl) (fun r_135 u_135 H locs hw_135 hP hS => ?_)
                have hP : va_P (dC, dI) vwCl [(bx, .inr (3, [.int thr, .int (nI k), .int (nI sd), .int tI, .int wI, .int cI, .ref bl, .ref ba, .ref bt, .ref bg, .ref be, .ref bf, .ref bw, .ref bs, .ref bm, .ref bn, .ref bb, .ref bu, .ref bh])), (ba, .inl (cyI, 32, .inl Af)), (bh, .inl (cyI, 15, .inl (upd g i (-1)))), (bt, .inl (cyI, 5, .inl tf)), (bf, .inl (cyI, 225, .inl ff)), (bw, .inl (cyI, 160, .inl u_135.1)), (bs, .inl (cyI, 5, .inl u_135.2.1)), (bm, .inl (cyI, 5, .inl u_135.2.2.1)), (bn, .inl (cyI, 5, .inl u_135.2.2.2.1)), (bb, .inl (cyI, 5, .inl u_135.2.2.2.2.1)), (bu, .inl (cyJ, 5, .inr (.inl u_135.2.2.2.2.2)))] H := hP
                refine zz_i (y := nI (zV k d (zsh own i (i + mm)) (if ztk oth (i + mm) = true then zsh oth (i + mm) 0 else oth))) hw_135 ?_
                refine lv_istore (lv' := [(6, .int (nI (zV k d (zsh own i (i + mm)) (if ztk oth (i + mm) = true then zsh oth (i + mm) 0 else oth)))), (5, .int 0), (4, .int (nI sd)), (3, .int r_61), (2, .int (nI i)), (0, .ref bx), (1, .int (nI d))]) hx hb dX6_layBehind_138 hl (by decide) rfl (fun ls hl => ?_)
                refine lv_aload_n hx hb dX6_layBehind_140 rfl (lv_at hl 5 rfl) ?_
                refine va_get (D := (dC, dI)) (ci := 3) (v := .ref bh) (C := RX6) (T := TX6) (N := 19) hx hb hts hinX6 hown hK hP 0 rfl rfl 18 (by decide) (hts (.fieldLink RX6 54 "RoyalUrTableModel" "behind" "[I") (List.mem_of_getElem? (i := 1) rfl)) (fun _ h9 => h9) rfl dX6_layBehind_141 ?_
                refine lv_iload_n hx hb dX6_layBehind_144 rfl (lv_at hl 4 rfl) ?_
                refine lv_iload hx hb dX6_layBehind_145 (lv_at hl 1 rfl) ?_
                refine lv_if_ne (tgt := 159) hx hb dX6_layBehind_147 (by decide) (fun c9 => absurd c9 (by decide)) (fun _ => ?_)
                refine lv_iload hx hb dX6_layBehind_150 (lv_at hl 2 rfl) ?_
                refine lv_aload_n hx hb dX6_layBehind_152 rfl (lv_at hl 5 rfl) ?_
                refine va_get (D := (dC, dI)) (ci := 3) (v := .int (nI sd)) (C := RX6) (T := TX6) (N := 19) hx hb hts hinX6 hown hK hP 0 rfl rfl 2 (by decide) (hts (.fieldLink RX6 128 "RoyalUrTableModel" "side" "I") (List.mem_of_getElem? (i := 4) rfl)) (fun _ h9 => h9) rfl dX6_layBehind_153 ?_
                refine lv_icmp_ne (tgt := 164) hx hb dX6_layBehind_156 (by decide) (fun c_156 => ?_) (fun c_156 => ?_)
                · skip
                  have c_156 : ¬ sd = sd := fun h9 => c_156 ((nI_eq (a := sd) (b := sd) (by omega) (by omega)).mpr h9)
                  exact absurd rfl c_156
                · skip
                  have c_156 : sd = sd := (nI_eq (a := sd) (b := sd) (by omega) (by omega)).mp c_156
                  refine lv_iload hx hb dX6_layBehind_159 (lv_at hl 0 rfl) ?_
                  refine lv_goto (tgt := 169) hx hb dX6_layBehind_161 (by decide) ?_
                  refine zi_iast hx hb hK hP hDD hS 2 0 rfl rfl (j := i) rfl (by omega) (by decide) dX6_layBehind_169 (fun H locs hP hS => ?_)
                  have hP : va_P (dC, dI) vwCl [(bx, .inr (3, [.int thr, .int (nI k), .int (nI sd), .int tI, .int wI, .int cI, .ref bl, .ref ba, .ref bt, .ref bg, .ref be, .ref bf, .ref bw, .ref bs, .ref bm, .ref bn, .ref bb, .ref bu, .ref bh])), (ba, .inl (cyI, 32, .inl Af)), (bh, .inl (cyI, 15, .inl (upd (upd g i (-1)) i (nI (zV k d (zsh own i (i + mm)) (if ztk oth (i + mm) = true then zsh oth (i + mm) 0 else oth)))))), (bt, .inl (cyI, 5, .inl tf)), (bf, .inl (cyI, 225, .inl ff)), (bw, .inl (cyI, 160, .inl u_135.1)), (bs, .inl (cyI, 5, .inl u_135.2.1)), (bm, .inl (cyI, 5, .inl u_135.2.2.1)), (bn, .inl (cyI, 5, .inl u_135.2.2.2.1)), (bb, .inl (cyI, 5, .inl u_135.2.2.2.2.1)), (bu, .inl (cyJ, 5, .inr (.inl u_135.2.2.2.2.2)))] H := hP
                  refine lv_iinc (v := nI (i + 1)) (lv' := [(2, .int (nI (i + 1))), (6, .int (nI (zV k d (zsh own i (i + mm)) (if ztk oth (i + mm) = true then zsh oth (i + mm) 0 else oth)))), (5, .int 0), (4, .int (nI sd)), (3, .int r_61), (0, .ref bx), (1, .int (nI d))]) hx hb dX6_layBehind_170 hl (k := 4) rfl (nI_1 i) (by decide) rfl (fun ls hl => ?_)
                  refine lv_goto (tgt := 2) hx hb dX6_layBehind_173 (by decide) ?_
                  exact ih2 (i + 1) _ (u_135.1, u_135.2.1, u_135.2.2.1, u_135.2.2.2.1, u_135.2.2.2.2.1, u_135.2.2.2.2.2) (by omega) (zLB_y hg c_40 (by rw [zBM_r (zhome_n hO2 c_111) c_74])) (by omega) _ _ hP hS _ (lv_sub hl [0, 5, 6] rfl)
              · skip
                have c_111 : (dg (zsh own i (i + mm)) 15) = k := (nI_eq (a := dg (zsh own i (i + mm)) 15) (b := k) (by omega) (by omega)).mp c_111
                refine lv_iconst (v := 1) hx hb dX6_layBehind_114 (by decide) ?_
                refine lv_goto (tgt := 119) hx hb dX6_layBehind_115 (by decide) ?_
                refine lv_istore (lv' := [(5, .int 1), (4, .int (nI sd)), (3, .int r_61), (2, .int (nI i)), (0, .ref bx), (1, .int (nI d))]) hx hb dX6_layBehind_119 hl (by decide) rfl (fun ls hl => ?_)
                refine lv_iload hx hb dX6_layBehind_121 (lv_at hl 0 rfl) ?_
                refine lv_if_eq (tgt := 131) hx hb dX6_layBehind_123 (by decide) (fun c9 => absurd c9 (by decide)) (fun _ => ?_)
                refine lv_ldc (v := 1000000000) hx hb hown (hts (.constant RX6 71 (1000000000)) (List.mem_of_getElem? (i := 7) rfl)) dX6_layBehind_126 ?_
                refine lv_goto (tgt := 138) hx hb dX6_layBehind_128 (by decide) ?_
                refine lv_istore (lv' := [(6, .int 1000000000), (5, .int 1), (4, .int (nI sd)), (3, .int r_61), (2, .int (nI i)), (0, .ref bx), (1, .int (nI d))]) hx hb dX6_layBehind_138 hl (by decide) rfl (fun ls hl => ?_)
                refine lv_aload_n hx hb dX6_layBehind_140 rfl (lv_at hl 5 rfl) ?_
                refine va_get (D := (dC, dI)) (ci := 3) (v := .ref bh) (C := RX6) (T := TX6) (N := 19) hx hb hts hinX6 hown hK hP 0 rfl rfl 18 (by decide) (hts (.fieldLink RX6 54 "RoyalUrTableModel" "behind" "[I") (List.mem_of_getElem? (i := 1) rfl)) (fun _ h9 => h9) rfl dX6_layBehind_141 ?_
                refine lv_iload_n hx hb dX6_layBehind_144 rfl (lv_at hl 4 rfl) ?_
                refine lv_iload hx hb dX6_layBehind_145 (lv_at hl 1 rfl) ?_
                refine lv_if_ne (tgt := 159) hx hb dX6_layBehind_147 (by decide) (fun _ => ?_) (fun c9 => absurd c9 (by decide))
                refine lv_iload hx hb dX6_layBehind_159 (lv_at hl 0 rfl) ?_
                refine lv_goto (tgt := 169) hx hb dX6_layBehind_161 (by decide) ?_
                refine zi_iast hx hb hK hP hDD hS 2 0 rfl rfl (j := i) rfl (by omega) (by decide) dX6_layBehind_169 (fun H locs hP hS => ?_)
                have hP : va_P (dC, dI) vwCl [(bx, .inr (3, [.int thr, .int (nI k), .int (nI sd), .int tI, .int wI, .int cI, .ref bl, .ref ba, .ref bt, .ref bg, .ref be, .ref bf, .ref bw, .ref bs, .ref bm, .ref bn, .ref bb, .ref bu, .ref bh])), (ba, .inl (cyI, 32, .inl Af)), (bh, .inl (cyI, 15, .inl (upd (upd g i (-1)) i 1000000000))), (bt, .inl (cyI, 5, .inl tf)), (bf, .inl (cyI, 225, .inl ff)), (bw, .inl (cyI, 160, .inl u_61)), (bs, .inl (cyI, 5, .inl v.2.1)), (bm, .inl (cyI, 5, .inl v.2.2.1)), (bn, .inl (cyI, 5, .inl v.2.2.2.1)), (bb, .inl (cyI, 5, .inl v.2.2.2.2.1)), (bu, .inl (cyJ, 5, .inr (.inl v.2.2.2.2.2)))] H := hP
                refine lv_iinc (v := nI (i + 1)) (lv' := [(2, .int (nI (i + 1))), (6, .int 1000000000), (5, .int 1), (4, .int (nI sd)), (3, .int r_61), (0, .ref bx), (1, .int (nI d))]) hx hb dX6_layBehind_170 hl (k := 4) rfl (nI_1 i) (by decide) rfl (fun ls hl => ?_)
                refine lv_goto (tgt := 2) hx hb dX6_layBehind_173 (by decide) ?_
                exact ih2 (i + 1) _ (u_61, v.2.1, v.2.2.1, v.2.2.2.1, v.2.2.2.2.1, v.2.2.2.2.2) (by omega) (zLB_y hg c_40 (by rw [zBM, if_pos ((zhome_iff hO2).mpr c_111)]; rfl)) (by omega) _ _ hP hS _ (lv_sub hl [0, 5, 6] rfl)
  exact lp 16 0 _ u0 (by omega) (fun j h => absurd h (Nat.not_lt_zero _)) (by omega) _ _ hP hS _ (lv_sub hl [0, 1, 2] rfl)

set_option maxHeartbeats 4000000 in
set_option maxRecDepth 100000 in
theorem c_X6_worthNow (l : Launch) (dC : Nat → ClassId) (dI : Nat → Nat → Nat) (cyI cyJ : ClassId) (k : Nat) (hk1 : 1 ≤ k) (bx bl ba bt bg be bf bw bs bm bn bb bu bh : Nat) (thr tI wI cI : Int32) (tf ff Af hf : Nat → Int32) (htf : ∀ j, j < 5 → tf j = nI (ztm j)) (hff : zFt 40 ff) (u0 : zU) (sd own oth mm d : Nat) (hd : d ≤ 3) (hsd : sd ≤ 1) (hO : zok k own) (hQ : zok k oth) (hrow : zRow Af 0 sd own oth) (hmk : zmk tI mm) (hmm : mm ≤ 4) (hhas : ¬ tI = -1 → zHas own oth mm 15 = true) (hnd : [bx, ba, bh, bt, bf, bw, bs, bm, bn, bb, bu].Nodup) : Met l yX6_worthNow wsX6_worthNow ({ frames := 6, cells := 0, slots := 0, locals := 144 }) (zPc [.ref bx, .int (nI d)] (dC, dI) vwCl [(cyI, .int), (cyJ, .long)] [(bx, .inr (3, [.int thr, .int (nI k), .int (nI sd), .int tI, .int wI, .int cI, .ref bl, .ref ba, .ref bt, .ref bg, .ref be, .ref bf, .ref bw, .ref bs, .ref bm, .ref bn, .ref bb, .ref bu, .ref bh])), (ba, .inl (cyI, 32, .inl Af)), (bh, .inl (cyI, 15, .inl hf)), (bt, .inl (cyI, 5, .inl tf)), (bf, .inl (cyI, 225, .inl ff)), (bw, .inl (cyI, 160, .inl u0.1)), (bs, .inl (cyI, 5, .inl u0.2.1)), (bm, .inl (cyI, 5, .inl u0.2.2.1)), (bn, .inl (cyI, 5, .inl u0.2.2.2.1)), (bb, .inl (cyI, 5, .inl u0.2.2.2.2.1)), (bu, .inl (cyJ, 5, .inr (.inl u0.2.2.2.2.2)))] (fun _ => True)) (va_Qi (fun (r : Int32) (_ : (Nat → Int32) × zU) => r = zWT k sd wI tI mm d own oth) (fun (u : (Nat → Int32) × zU) t => va_P (dC, dI) vwCl ([(bx, .inr (3, [.int thr, .int (nI k), .int (nI sd), .int tI, .int wI, .int cI, .ref bl, .ref ba, .ref bt, .ref bg, .ref be, .ref bf, .ref bw, .ref bs, .ref bm, .ref bn, .ref bb, .ref bu, .ref bh])), (ba, .inl (cyI, 32, .inl Af)), (bh, .inl (cyI, 15, .inl u.1)), (bt, .inl (cyI, 5, .inl tf)), (bf, .inl (cyI, 225, .inl ff)), (bw, .inl (cyI, 160, .inl u.2.1)), (bs, .inl (cyI, 5, .inl u.2.2.1)), (bm, .inl (cyI, 5, .inl u.2.2.2.1)), (bn, .inl (cyI, 5, .inl u.2.2.2.2.1)), (bb, .inl (cyI, 5, .inl u.2.2.2.2.2.1)), (bu, .inl (cyJ, 5, .inr (.inl u.2.2.2.2.2.2)))]) t.heap) (zA [bx, ba, bh, bt, bf, bw, bs, bm, bn, bb, bu])) 0 0 (zA [bx, ba, bh, bt, bf, bw, bs, bm, bn, bb, bu]) := by
  refine Met.ofW (cc := cX6_worthNow) (maxL := 4) (ret := (some .int)) (by decide) rfl ?_
  intro p e s m args below meth c s₁ B hml hv
  obtain ⟨rfl, hP, hK, hX⟩ := hv
  have hx := B.exec
  have hb := B.bytes
  have hr := B.returns
  have hts := atoms_spec (ws := wsX6_worthNow) B.pre
  have hown : s.vm.findClass RX6 = some m.cls := findClass_of_methodNamed B.named
  have hlocks := B.notSynchronized
  have hinX6 : ∀ w ∈ wsX60, w ∈ wsX6_worthNow := by decide +kernel
  have hl := lv_entry ([.ref bx, .int (nI d)]) (n := 4) (Nat.le_of_ble_eq_true rfl)
  rw [lg_entry_eq]
  generalize (lg_sl ([.ref bx, .int (nI d)]) ++ List.replicate (4 - (lg_sl ([.ref bx, .int (nI d)])).length) Slot.unset).toArray = ls at hl ⊢
  have hl : lv_has ls 4 [(0, .ref bx), (1, .int (nI d))] := hl
  have hS : va_S (zA [bx, ba, bh, bt, bf, bw, bs, bm, bn, bb, bu]) s.heap s.heap [] := va_S.rf
  have hDD : zD (zA [bx, ba, bh, bt, bf, bw, bs, bm, bn, bb, bu]) [bx, ba, bh, bt, bf, bw, bs, bm, bn, bb, bu] := ⟨hnd, fun _ h => h⟩
  generalize hQe : MQ below _ _ _ _ _ _ = Q
  refine lv_aload_n hx hb dX6_worthNow_0 rfl (lv_at hl 0 rfl) ?_
  refine va_get (D := (dC, dI)) (ci := 3) (v := .int wI) (C := RX6) (T := TX6) (N := 19) hx hb hts hinX6 hown hK hP 0 rfl rfl 4 (by decide) (hts (.fieldLink RX6 13 "RoyalUrTableModel" "won" "I") (List.mem_of_getElem? (i := 1) rfl)) (fun _ h9 => h9) rfl dX6_worthNow_1 ?_
  refine lv_iconst (v := -1) hx hb dX6_worthNow_4 (by decide) ?_
  refine lv_icmp_eq (tgt := 26) hx hb dX6_worthNow_5 (by decide) (fun c_5 => ?_) (fun c_5 => ?_)
  · skip
    refine lv_aload_n hx hb dX6_worthNow_26 rfl (lv_at hl 0 rfl) ?_
    refine va_get (D := (dC, dI)) (ci := 3) (v := .int tI) (C := RX6) (T := TX6) (N := 19) hx hb hts hinX6 hown hK hP 0 rfl rfl 3 (by decide) (hts (.fieldLink RX6 9 "RoyalUrTableModel" "told" "I") (List.mem_of_getElem? (i := 4) rfl)) (fun _ h9 => h9) rfl dX6_worthNow_27 ?_
    refine lv_iconst (v := -1) hx hb dX6_worthNow_30 (by decide) ?_
    refine lv_icmp_ne (tgt := 48) hx hb dX6_worthNow_31 (by decide) (fun c_31 => ?_) (fun c_31 => ?_)
    · skip
      refine lv_aload_n hx hb dX6_worthNow_48 rfl (lv_at hl 0 rfl) ?_
      refine lv_iload_n hx hb dX6_worthNow_49 rfl (lv_at hl 1 rfl) ?_
      refine zrw_v (w1 := fun u : (Nat → Int32) × zU => [(bx, .inr (3, [.int thr, .int (nI k), .int (nI sd), .int tI, .int wI, .int cI, .ref bl, .ref ba, .ref bt, .ref bg, .ref be, .ref bf, .ref bw, .ref bs, .ref bm, .ref bn, .ref bb, .ref bu, .ref bh])), (ba, .inl (cyI, 32, .inl Af)), (bh, .inl (cyI, 15, .inl u.1)), (bt, .inl (cyI, 5, .inl tf)), (bf, .inl (cyI, 225, .inl ff)), (bw, .inl (cyI, 160, .inl u.2.1)), (bs, .inl (cyI, 5, .inl u.2.2.1)), (bm, .inl (cyI, 5, .inl u.2.2.2.1)), (bn, .inl (cyI, 5, .inl u.2.2.2.2.1)), (bb, .inl (cyI, 5, .inl u.2.2.2.2.2.1)), (bu, .inl (cyJ, 5, .inr (.inl u.2.2.2.2.2.2)))]) (al := [bx, ba, bh, bt, bf, bw, bs, bm, bn, bb, bu]) (va_runV (As := [.int (nI d)]) (rest := []) ⟨hx, hb, hml, hown, hts⟩ (c_X6_layBehind l dC dI cyI cyJ k hk1 bx bl ba bt bg be bf bw bs bm bn bb bu bh thr tI wI cI tf ff Af hf htf hff u0 sd own oth mm d (by omega) hsd hO hQ hrow hmk hmm (z_nd hDD.1 [0, 1, 2, 3, 4, 5, 6, 7, 8, 9, 10] (by decide) rfl)) (cwV 1 hts gX6_worthNow_X6_layBehind rfl rfl rfl (by decide +kernel) ⟨Nat.le_of_ble_eq_true rfl, Nat.le_of_ble_eq_true rfl⟩) (zPc_V (ci := 3) (q0 := 0) zB_T hP hK rfl rfl [0, 1, 2, 3, 4, 5, 6, 7, 8, 9, 10] rfl (fun _ _ _ => trivial)) rfl rfl hl.1 rfl (lv_room (Nat.le_of_ble_eq_true rfl)) dX6_worthNow_50 ⟨Nat.zero_le _, Nat.zero_le _⟩) hP hDD hS [0, 1, 2, 3, 4, 5, 6, 7, 8, 9, 10] rfl (fun _ => rfl) (fun u_50 H locs hw_50 hP hS => ?_)
      have hP : va_P (dC, dI) vwCl [(bx, .inr (3, [.int thr, .int (nI k), .int (nI sd), .int tI, .int wI, .int cI, .ref bl, .ref ba, .ref bt, .ref bg, .ref be, .ref bf, .ref bw, .ref bs, .ref bm, .ref bn, .ref bb, .ref bu, .ref bh])), (ba, .inl (cyI, 32, .inl Af)), (bh, .inl (cyI, 15, .inl u_50.1)), (bt, .inl (cyI, 5, .inl tf)), (bf, .inl (cyI, 225, .inl ff)), (bw, .inl (cyI, 160, .inl u_50.2.1)), (bs, .inl (cyI, 5, .inl u_50.2.2.1)), (bm, .inl (cyI, 5, .inl u_50.2.2.2.1)), (bn, .inl (cyI, 5, .inl u_50.2.2.2.2.1)), (bb, .inl (cyI, 5, .inl u_50.2.2.2.2.2.1)), (bu, .inl (cyJ, 5, .inr (.inl u_50.2.2.2.2.2.2)))] H := hP
      refine lv_iconst (v := 0) hx hb dX6_worthNow_53 (by decide) ?_
      refine lv_istore_n (lv' := [(2, .int 0), (0, .ref bx), (1, .int (nI d))]) hx hb dX6_worthNow_54 rfl hl (by decide) rfl (fun ls hl => ?_)
      refine lv_iconst (v := 0) hx hb dX6_worthNow_55 (by decide) ?_
      refine lv_istore_n (lv' := [(3, .int 0), (2, .int 0), (0, .ref bx), (1, .int (nI d))]) hx hb dX6_worthNow_56 rfl hl (by decide) rfl (fun ls hl => ?_)
      have lp : ∀ (n9 : Nat) (i : Nat) (x : Nat), i ≤ 15 → x = zBst (fun fr => zBM (zV k d) own oth fr mm) own oth mm i → 15 - i < n9 → ∀ (H : Heap) (locs : List Loc), va_P (dC, dI) vwCl [(bx, .inr (3, [.int thr, .int (nI k), .int (nI sd), .int tI, .int wI, .int cI, .ref bl, .ref ba, .ref bt, .ref bg, .ref be, .ref bf, .ref bw, .ref bs, .ref bm, .ref bn, .ref bb, .ref bu, .ref bh])), (ba, .inl (cyI, 32, .inl Af)), (bh, .inl (cyI, 15, .inl u_50.1)), (bt, .inl (cyI, 5, .inl tf)), (bf, .inl (cyI, 225, .inl ff)), (bw, .inl (cyI, 160, .inl u_50.2.1)), (bs, .inl (cyI, 5, .inl u_50.2.2.1)), (bm, .inl (cyI, 5, .inl u_50.2.2.2.1)), (bn, .inl (cyI, 5, .inl u_50.2.2.2.2.1)), (bb, .inl (cyI, 5, .inl u_50.2.2.2.2.2.1)), (bu, .inl (cyJ, 5, .inr (.inl u_50.2.2.2.2.2.2)))] H → va_S (zA [bx, ba, bh, bt, bf, bw, bs, bm, bn, bb, bu]) s.heap H locs → ∀ ls : Array Slot, lv_has ls 4 [(3, .int (nI i)), (2, .int (nI x)), (0, .ref bx), (1, .int (nI d))] → W p l e (headSpec wsX6_worthNow ({ frames := 6, cells := 0, slots := 0, locals := 144 })).room s m ([.ref bx, .int (nI d)] : List Value).toArray below meth c H locs 0 0 Q (F0 m 57 ls []) := by
        intro n9
        induction n9 with
        | zero => intro i x hi2 hxv hm9; exact absurd hm9 (Nat.not_lt_zero _)
        | succ n9 ih57 =>
          intro i x hi2 hxv hm9 H locs hP hS ls hl
          refine lv_iload_n hx hb dX6_worthNow_57 rfl (lv_at hl 0 rfl) ?_
          refine lv_bipush (v := 15) hx hb dX6_worthNow_58 (by decide) ?_
          refine lv_icmp_ge (tgt := 90) hx hb dX6_worthNow_60 (by decide) (fun c_60 => ?_) (fun c_60 => ?_)
          · skip
            have c_60 : 15 ≤ i := (nI_leI (a := 15) (b := i) (by omega) (by omega)).mp c_60
            refine lv_iload_n hx hb dX6_worthNow_90 rfl (lv_at hl 1 rfl) ?_
            subst hQe
            exact W.iret (v := nI x) hx hb hr (fun t ht hW => ⟨⟨_, (u_50.1, (u_50.2.1, u_50.2.2.1, u_50.2.2.2.1, u_50.2.2.2.2.1, u_50.2.2.2.2.2.1, u_50.2.2.2.2.2.2)), rfl, (by rw [zWT, if_pos c_5, if_neg c_31, zBT, if_pos (hhas c_31), hxv, show i = 15 by omega]), zh ht hP⟩, hS.F ht⟩) hS.2.2 dX6_worthNow_91
          · skip
            have c_60 : ¬ 15 ≤ i := fun h9 => c_60 ((nI_leI (a := 15) (b := i) (by omega) (by omega)).mpr h9)
            refine lv_aload_n hx hb dX6_worthNow_63 rfl (lv_at hl 2 rfl) ?_
            refine va_get (D := (dC, dI)) (ci := 3) (v := .ref bh) (C := RX6) (T := TX6) (N := 19) hx hb hts hinX6 hown hK hP 0 rfl rfl 18 (by decide) (hts (.fieldLink RX6 54 "RoyalUrTableModel" "behind" "[I") (List.mem_of_getElem? (i := 5) rfl)) (fun _ h9 => h9) rfl dX6_worthNow_64 ?_
            refine lv_iload_n hx hb dX6_worthNow_67 rfl (lv_at hl 0 rfl) ?_
            refine zi_iald hx hb hK hP 2 0 rfl rfl (j := i) rfl (by omega) (by decide) dX6_worthNow_68 ?_
            refine zz_i (y := zWB k d own oth mm i) (hw_50 i (by omega)) ?_
            refine lv_iload_n hx hb dX6_worthNow_69 rfl (lv_at hl 1 rfl) ?_
            refine lv_icmp_le (tgt := 82) hx hb dX6_worthNow_70 (by decide) (fun c_70 => ?_) (fun c_70 => ?_)
            · skip
              refine lv_iload_n hx hb dX6_worthNow_82 rfl (lv_at hl 1 rfl) ?_
              refine lv_istore_n (lv' := [(2, .int (nI x)), (3, .int (nI i)), (0, .ref bx), (1, .int (nI d))]) hx hb dX6_worthNow_83 rfl hl (by decide) rfl (fun ls hl => ?_)
              refine lv_iinc (v := nI (i + 1)) (lv' := [(3, .int (nI (i + 1))), (2, .int (nI x)), (0, .ref bx), (1, .int (nI d))]) hx hb dX6_worthNow_84 hl (k := 1) rfl (nI_1 i) (by decide) rfl (fun ls hl => ?_)
              refine lv_goto (tgt := 57) hx hb dX6_worthNow_87 (by decide) ?_
              exact ih57 (i + 1) _ (by omega) (zmost_n hxv (Int32.not_lt.mpr c_70)) (by omega) _ _ hP hS _ (lv_sub hl [0, 1, 2, 3] rfl)
            · skip
              obtain ⟨y, hy1, hy2⟩ := zmost_y hxv (Int32.not_le.mp c_70)
              refine lv_aload_n hx hb dX6_worthNow_73 rfl (lv_at hl 2 rfl) ?_
              refine va_get (D := (dC, dI)) (ci := 3) (v := .ref bh) (C := RX6) (T := TX6) (N := 19) hx hb hts hinX6 hown hK hP 0 rfl rfl 18 (by decide) (hts (.fieldLink RX6 54 "RoyalUrTableModel" "behind" "[I") (List.mem_of_getElem? (i := 5) rfl)) (fun _ h9 => h9) rfl dX6_worthNow_74 ?_
              refine lv_iload_n hx hb dX6_worthNow_77 rfl (lv_at hl 0 rfl) ?_
              refine zi_iald hx hb hK hP 2 0 rfl rfl (j := i) rfl (by omega) (by decide) dX6_worthNow_78 ?_
              refine zz_i (y := nI y) ((hw_50 i (by omega)).trans hy2) ?_
              refine lv_goto (tgt := 83) hx hb dX6_worthNow_79 (by decide) ?_
              refine lv_istore_n (lv' := [(2, .int (nI y)), (3, .int (nI i)), (0, .ref bx), (1, .int (nI d))]) hx hb dX6_worthNow_83 rfl hl (by decide) rfl (fun ls hl => ?_)
              refine lv_iinc (v := nI (i + 1)) (lv' := [(3, .int (nI (i + 1))), (2, .int (nI y)), (0, .ref bx), (1, .int (nI d))]) hx hb dX6_worthNow_84 hl (k := 1) rfl (nI_1 i) (by decide) rfl (fun ls hl => ?_)
              refine lv_goto (tgt := 57) hx hb dX6_worthNow_87 (by decide) ?_
              exact ih57 (i + 1) _ (by omega) hy1 (by omega) _ _ hP hS _ (lv_sub hl [0, 1, 2, 3] rfl)
      exact lp 16 0 0 (by omega) rfl (by omega) _ _ hP hS _ (lv_sub hl [0, 1, 2, 3] rfl)
    · skip
      refine lv_aload_n hx hb dX6_worthNow_34 rfl (lv_at hl 0 rfl) ?_
      refine zrw_v (w1 := fun u : Nat → Int32 => [(bx, .inr (3, [.int thr, .int (nI k), .int (nI sd), .int tI, .int wI, .int cI, .ref bl, .ref ba, .ref bt, .ref bg, .ref be, .ref bf, .ref bw, .ref bs, .ref bm, .ref bn, .ref bb, .ref bu, .ref bh])), (ba, .inl (cyI, 32, .inl Af)), (bw, .inl (cyI, 160, .inl u))]) (al := [bx, ba, bw]) (va_runV (As := []) (rest := []) ⟨hx, hb, hml, hown, hts⟩ (c_X6_lays l dC dI cyI cyJ k bx bl ba bt bg be bf bw bs bm bn bb bu bh thr (nI sd) tI wI cI u0.1 Af (z_nd hDD.1 [0, 1, 5] (by decide) rfl)) (cwV 0 hts gX6_worthNow_X6_lays rfl rfl rfl (by decide +kernel) ⟨Nat.le_of_ble_eq_true rfl, Nat.le_of_ble_eq_true rfl⟩) (zPc_V (ci := 3) (q0 := 0) zB_T hP hK rfl rfl [0, 1, 5] rfl (fun _ _ _ => trivial)) rfl rfl hl.1 rfl (lv_room (Nat.le_of_ble_eq_true rfl)) dX6_worthNow_35 ⟨Nat.zero_le _, Nat.zero_le _⟩) hP hDD hS [0, 1, 5] rfl (fun _ => rfl) (fun u_35 H locs hw_35 hP hS => ?_)
      have hP : va_P (dC, dI) vwCl [(bx, .inr (3, [.int thr, .int (nI k), .int (nI sd), .int tI, .int wI, .int cI, .ref bl, .ref ba, .ref bt, .ref bg, .ref be, .ref bf, .ref bw, .ref bs, .ref bm, .ref bn, .ref bb, .ref bu, .ref bh])), (ba, .inl (cyI, 32, .inl Af)), (bh, .inl (cyI, 15, .inl hf)), (bt, .inl (cyI, 5, .inl tf)), (bf, .inl (cyI, 225, .inl ff)), (bw, .inl (cyI, 160, .inl u_35)), (bs, .inl (cyI, 5, .inl u0.2.1)), (bm, .inl (cyI, 5, .inl u0.2.2.1)), (bn, .inl (cyI, 5, .inl u0.2.2.2.1)), (bb, .inl (cyI, 5, .inl u0.2.2.2.2.1)), (bu, .inl (cyJ, 5, .inr (.inl u0.2.2.2.2.2)))] H := hP
      refine lv_aload_n hx hb dX6_worthNow_38 rfl (lv_at hl 0 rfl) ?_
      refine lv_aload_n hx hb dX6_worthNow_39 rfl (lv_at hl 0 rfl) ?_
      refine va_get (D := (dC, dI)) (ci := 3) (v := .int (nI sd)) (C := RX6) (T := TX6) (N := 19) hx hb hts hinX6 hown hK hP 0 rfl rfl 2 (by decide) (hts (.fieldLink RX6 128 "RoyalUrTableModel" "side" "I") (List.mem_of_getElem? (i := 2) rfl)) (fun _ h9 => h9) rfl dX6_worthNow_40 ?_
      refine lv_iload_n hx hb dX6_worthNow_43 rfl (lv_at hl 1 rfl) ?_
      refine zrw_i (w1 := fun u : zU => [(bx, .inr (3, [.int thr, .int (nI k), .int (nI sd), .int tI, .int wI, .int cI, .ref bl, .ref ba, .ref bt, .ref bg, .ref be, .ref bf, .ref bw, .ref bs, .ref bm, .ref bn, .ref bb, .ref bu, .ref bh])), (bt, .inl (cyI, 5, .inl tf)), (bf, .inl (cyI, 225, .inl ff)), (bw, .inl (cyI, 160, .inl u.1)), (bs, .inl (cyI, 5, .inl u.2.1)), (bm, .inl (cyI, 5, .inl u.2.2.1)), (bn, .inl (cyI, 5, .inl u.2.2.2.1)), (bb, .inl (cyI, 5, .inl u.2.2.2.2.1)), (bu, .inl (cyJ, 5, .inr (.inl u.2.2.2.2.2)))]) (al := [bx, bt, bf, bw, bs, bm, bn, bb, bu]) (va_runV (As := [.int (nI sd), .int (nI d)]) (rest := []) ⟨hx, hb, hml, hown, hts⟩ (c_X6_worthOf l dC dI cyI cyJ k hk1 bx bl ba bt bg be bf bw bs bm bn bb bu bh thr (nI sd) tI wI cI tf ff htf hff (u_35, u0.2.1, u0.2.2.1, u0.2.2.2.1, u0.2.2.2.2.1, u0.2.2.2.2.2) sd own oth d hd hsd hO hQ (zRow_cg hsd hrow (fun q _ h2 => hw_35 q (by omega))) (nI sd) rfl (z_nd hDD.1 [0, 3, 4, 5, 6, 7, 8, 9, 10] (by decide) rfl)) (cwV 2 hts gX6_worthNow_X6_worthOf rfl rfl rfl (by decide +kernel) ⟨Nat.le_of_ble_eq_true rfl, Nat.le_of_ble_eq_true rfl⟩) (zPc_V (ci := 3) (q0 := 0) zB_T hP hK rfl rfl [0, 3, 4, 5, 6, 7, 8, 9, 10] rfl (fun _ _ _ => trivial)) rfl rfl hl.1 rfl (lv_room (Nat.le_of_ble_eq_true rfl)) dX6_worthNow_44 ⟨Nat.zero_le _, Nat.zero_le _⟩) hP hDD hS [0, 3, 4, 5, 6, 7, 8, 9, 10] rfl (fun _ => rfl) (fun r_44 u_44 H locs hw_44 hP hS => ?_)
      have hP : va_P (dC, dI) vwCl [(bx, .inr (3, [.int thr, .int (nI k), .int (nI sd), .int tI, .int wI, .int cI, .ref bl, .ref ba, .ref bt, .ref bg, .ref be, .ref bf, .ref bw, .ref bs, .ref bm, .ref bn, .ref bb, .ref bu, .ref bh])), (ba, .inl (cyI, 32, .inl Af)), (bh, .inl (cyI, 15, .inl hf)), (bt, .inl (cyI, 5, .inl tf)), (bf, .inl (cyI, 225, .inl ff)), (bw, .inl (cyI, 160, .inl u_44.1)), (bs, .inl (cyI, 5, .inl u_44.2.1)), (bm, .inl (cyI, 5, .inl u_44.2.2.1)), (bn, .inl (cyI, 5, .inl u_44.2.2.2.1)), (bb, .inl (cyI, 5, .inl u_44.2.2.2.2.1)), (bu, .inl (cyJ, 5, .inr (.inl u_44.2.2.2.2.2)))] H := hP
      subst hQe
      exact W.iret (v := r_44) hx hb hr (fun t ht hW => ⟨⟨_, (hf, (u_44.1, u_44.2.1, u_44.2.2.1, u_44.2.2.2.1, u_44.2.2.2.2.1, u_44.2.2.2.2.2)), rfl, (by rw [zWT, if_pos c_5, if_pos c_31, hw_44]), zh ht hP⟩, hS.F ht⟩) hS.2.2 dX6_worthNow_47
  · skip
    refine lv_aload_n hx hb dX6_worthNow_8 rfl (lv_at hl 0 rfl) ?_
    refine va_get (D := (dC, dI)) (ci := 3) (v := .int wI) (C := RX6) (T := TX6) (N := 19) hx hb hts hinX6 hown hK hP 0 rfl rfl 4 (by decide) (hts (.fieldLink RX6 13 "RoyalUrTableModel" "won" "I") (List.mem_of_getElem? (i := 1) rfl)) (fun _ h9 => h9) rfl dX6_worthNow_9 ?_
    refine lv_aload_n hx hb dX6_worthNow_12 rfl (lv_at hl 0 rfl) ?_
    refine va_get (D := (dC, dI)) (ci := 3) (v := .int (nI sd)) (C := RX6) (T := TX6) (N := 19) hx hb hts hinX6 hown hK hP 0 rfl rfl 2 (by decide) (hts (.fieldLink RX6 128 "RoyalUrTableModel" "side" "I") (List.mem_of_getElem? (i := 2) rfl)) (fun _ h9 => h9) rfl dX6_worthNow_13 ?_
    refine lv_icmp_ne (tgt := 24) hx hb dX6_worthNow_16 (by decide) (fun c_16 => ?_) (fun c_16 => ?_)
    · skip
      refine lv_iconst (v := 0) hx hb dX6_worthNow_24 (by decide) ?_
      subst hQe
      exact W.iret (v := 0) hx hb hr (fun t ht hW => ⟨⟨_, (hf, (u0.1, u0.2.1, u0.2.2.1, u0.2.2.2.1, u0.2.2.2.2.1, u0.2.2.2.2.2)), rfl, (by rw [zWT, if_neg c_5, if_neg c_16]), zh ht hP⟩, hS.F ht⟩) hS.2.2 dX6_worthNow_25
    · skip
      refine lv_ldc (v := 1000000000) hx hb hown (hts (.constant RX6 71 (1000000000)) (List.mem_of_getElem? (i := 3) rfl)) dX6_worthNow_19 ?_
      refine lv_goto (tgt := 25) hx hb dX6_worthNow_21 (by decide) ?_
      subst hQe
      exact W.iret (v := 1000000000) hx hb hr (fun t ht hW => ⟨⟨_, (hf, (u0.1, u0.2.1, u0.2.2.1, u0.2.2.2.1, u0.2.2.2.2.1, u0.2.2.2.2.2)), rfl, (by rw [zWT, if_neg c_5, if_pos c_16]), zh ht hP⟩, hS.F ht⟩) hS.2.2 dX6_worthNow_25

set_option maxHeartbeats 4000000 in
set_option maxRecDepth 100000 in
theorem c_X6_countMoves (l : Launch) (dC : Nat → ClassId) (dI : Nat → Nat → Nat) (cyI cyJ : ClassId) (k : Nat) (bx bl ba bt bg be bf bw bs bm bn bb bu bh : Nat) (thr tI wI cI : Int32) (Af : Nat → Int32) (sd own oth mm : Nat) (hsd : sd ≤ 1) (hrow : zRow Af 0 sd own oth) (hmm : mm ≤ 4) : Met l yX6_countMoves wsX6_countMoves ({ frames := 1, cells := 0, slots := 0, locals := 26 }) (zPc [.ref bx, .int (nI mm)] (dC, dI) vwCl [(cyI, .int), (cyJ, .long)] [(bx, .inr (3, [.int thr, .int (nI k), .int (nI sd), .int tI, .int wI, .int cI, .ref bl, .ref ba, .ref bt, .ref bg, .ref be, .ref bf, .ref bw, .ref bs, .ref bm, .ref bn, .ref bb, .ref bu, .ref bh])), (ba, .inl (cyI, 32, .inl Af))] (fun _ => True)) (va_Qi (fun (r : Int32) (_ : Unit) => r = nI (zNum own oth mm 15)) (fun _ _ => True) zF) 0 0 zF := by
  refine Met.ofW (cc := cX6_countMoves) (maxL := 4) (ret := (some .int)) (by decide) rfl ?_
  intro p e s m args below meth c s₁ B hml hv
  obtain ⟨rfl, hP, hK, hX⟩ := hv
  have hx := B.exec
  have hb := B.bytes
  have hr := B.returns
  have hts := atoms_spec (ws := wsX6_countMoves) B.pre
  have hown : s.vm.findClass RX6 = some m.cls := findClass_of_methodNamed B.named
  have hlocks := B.notSynchronized
  have hinX6 : ∀ w ∈ wsX60, w ∈ wsX6_countMoves := by decide +kernel
  have hl := lv_entry ([.ref bx, .int (nI mm)]) (n := 4) (Nat.le_of_ble_eq_true rfl)
  rw [lg_entry_eq]
  generalize (lg_sl ([.ref bx, .int (nI mm)]) ++ List.replicate (4 - (lg_sl ([.ref bx, .int (nI mm)])).length) Slot.unset).toArray = ls at hl ⊢
  have hl : lv_has ls 4 [(0, .ref bx), (1, .int (nI mm))] := hl
  have hS : va_S zF s.heap s.heap [] := va_S.rf
  generalize hQe : MQ below _ _ _ _ _ _ = Q
  refine lv_iconst (v := 0) hx hb dX6_countMoves_0 (by decide) ?_
  refine lv_istore_n (lv' := [(2, .int 0), (0, .ref bx), (1, .int (nI mm))]) hx hb dX6_countMoves_1 rfl hl (by decide) rfl (fun ls hl => ?_)
  refine lv_iconst (v := 0) hx hb dX6_countMoves_2 (by decide) ?_
  refine lv_istore_n (lv' := [(3, .int 0), (2, .int 0), (0, .ref bx), (1, .int (nI mm))]) hx hb dX6_countMoves_3 rfl hl (by decide) rfl (fun ls hl => ?_)
  have lp : ∀ (n9 : Nat) (i : Nat) (cv : Nat), i ≤ 15 → cv = zNum own oth mm i → 15 - i < n9 → ∀ (H : Heap) (locs : List Loc), va_P (dC, dI) vwCl [(bx, .inr (3, [.int thr, .int (nI k), .int (nI sd), .int tI, .int wI, .int cI, .ref bl, .ref ba, .ref bt, .ref bg, .ref be, .ref bf, .ref bw, .ref bs, .ref bm, .ref bn, .ref bb, .ref bu, .ref bh])), (ba, .inl (cyI, 32, .inl Af))] H → va_S zF s.heap H locs → ∀ ls : Array Slot, lv_has ls 4 [(3, .int (nI i)), (2, .int (nI cv)), (0, .ref bx), (1, .int (nI mm))] → W p l e (headSpec wsX6_countMoves ({ frames := 1, cells := 0, slots := 0, locals := 26 })).room s m ([.ref bx, .int (nI mm)] : List Value).toArray below meth c H locs 0 0 Q (F0 m 4 ls []) := by
    intro n9
    induction n9 with
    | zero => intro i cv hi2 hcv hm9; exact absurd hm9 (Nat.not_lt_zero _)
    | succ n9 ih4 =>
      intro i cv hi2 hcv hm9 H locs hP hS ls hl
      refine lv_iload_n hx hb dX6_countMoves_4 rfl (lv_at hl 0 rfl) ?_
      refine lv_bipush (v := 15) hx hb dX6_countMoves_5 (by decide) ?_
      refine lv_icmp_ge (tgt := 41) hx hb dX6_countMoves_7 (by decide) (fun c_7 => ?_) (fun c_7 => ?_)
      · skip
        have c_7 : 15 ≤ i := (nI_leI (a := 15) (b := i) (by omega) (by omega)).mp c_7
        refine lv_iload_n hx hb dX6_countMoves_41 rfl (lv_at hl 1 rfl) ?_
        subst hQe
        exact W.iret (v := nI cv) hx hb hr (fun t ht hW => ⟨⟨_, (), rfl, (by rw [hcv, show i = 15 by omega]), trivial⟩, hS.F ht⟩) hS.2.2 dX6_countMoves_42
      · skip
        have c_7 : ¬ 15 ≤ i := fun h9 => c_7 ((nI_leI (a := 15) (b := i) (by omega) (by omega)).mpr h9)
        refine lv_iload_n hx hb dX6_countMoves_10 rfl (lv_at hl 1 rfl) ?_
        refine lv_aload_n hx hb dX6_countMoves_11 rfl (lv_at hl 2 rfl) ?_
        refine va_get (D := (dC, dI)) (ci := 3) (v := .ref ba) (C := RX6) (T := TX6) (N := 19) hx hb hts hinX6 hown hK hP 0 rfl rfl 7 (by decide) (hts (.fieldLink RX6 20 "RoyalUrTableModel" "at" "[I") (List.mem_of_getElem? (i := 1) rfl)) (fun _ h9 => h9) rfl dX6_countMoves_12 ?_
        refine lv_iconst (v := 0) hx hb dX6_countMoves_15 (by decide) ?_
        refine lv_aload_n hx hb dX6_countMoves_16 rfl (lv_at hl 2 rfl) ?_
        refine va_get (D := (dC, dI)) (ci := 3) (v := .int (nI sd)) (C := RX6) (T := TX6) (N := 19) hx hb hts hinX6 hown hK hP 0 rfl rfl 2 (by decide) (hts (.fieldLink RX6 128 "RoyalUrTableModel" "side" "I") (List.mem_of_getElem? (i := 2) rfl)) (fun _ h9 => h9) rfl dX6_countMoves_17 ?_
        refine lv_iload_n hx hb dX6_countMoves_20 rfl (lv_at hl 0 rfl) ?_
        refine lv_iload_n hx hb dX6_countMoves_21 rfl (lv_at hl 3 rfl) ?_
        refine zro_i (va_runS (As := [.ref ba, .int 0, .int (nI sd), .int (nI i), .int (nI mm)]) (rest := [.int (nI cv)]) ⟨hx, hb, hml, hown, hts⟩ (c_X6_canMove l dC dI cyI cyJ ba 32 (by omega) Af 0 sd own oth i mm (by omega) hsd hrow (by omega) hmm) (va_cwS 5 hts gX6_countMoves_X6_canMove rfl rfl rfl (by decide +kernel) ⟨Nat.le_of_ble_eq_true rfl, Nat.le_of_ble_eq_true rfl⟩) (zPc_S zB_T hP hK [1] rfl (fun _ _ _ => trivial)) rfl rfl hl.1 rfl (lv_room (Nat.le_of_ble_eq_true rfl)) dX6_countMoves_22 ⟨Nat.zero_le _, Nat.zero_le _⟩) hP hS (fun H locs hP hS => ?_)
        refine lv_if_eq (tgt := 32) hx hb dX6_countMoves_25 (by decide) (fun c_25 => ?_) (fun c_25 => ?_)
        · skip
          have c_25 := bI_0.mp c_25
          refine lv_iconst (v := 0) hx hb dX6_countMoves_32 (by decide) ?_
          refine lv_iadd hx hb dX6_countMoves_33 ?_
          refine zz_i (y := nI (cv + 0)) (nI_add cv 0) ?_
          refine lv_istore_n (lv' := [(2, .int (nI (cv + 0))), (3, .int (nI i)), (0, .ref bx), (1, .int (nI mm))]) hx hb dX6_countMoves_34 rfl hl (by decide) rfl (fun ls hl => ?_)
          refine lv_iinc (v := nI (i + 1)) (lv' := [(3, .int (nI (i + 1))), (2, .int (nI (cv + 0))), (0, .ref bx), (1, .int (nI mm))]) hx hb dX6_countMoves_35 hl (k := 1) rfl (nI_1 i) (by decide) rfl (fun ls hl => ?_)
          refine lv_goto (tgt := 4) hx hb dX6_countMoves_38 (by decide) ?_
          exact ih4 (i + 1) _ (by omega) (by rw [zNum_s, if_neg (by rw [c_25]; decide)]; exact congrArg (· + 0) hcv) (by omega) _ _ hP hS _ (lv_sub hl [0, 1, 2, 3] rfl)
        · skip
          have c_25 := bI_1.mp c_25
          refine lv_iconst (v := 1) hx hb dX6_countMoves_28 (by decide) ?_
          refine lv_goto (tgt := 33) hx hb dX6_countMoves_29 (by decide) ?_
          refine lv_iadd hx hb dX6_countMoves_33 ?_
          refine zz_i (y := nI (cv + 1)) (nI_add cv 1) ?_
          refine lv_istore_n (lv' := [(2, .int (nI (cv + 1))), (3, .int (nI i)), (0, .ref bx), (1, .int (nI mm))]) hx hb dX6_countMoves_34 rfl hl (by decide) rfl (fun ls hl => ?_)
          refine lv_iinc (v := nI (i + 1)) (lv' := [(3, .int (nI (i + 1))), (2, .int (nI (cv + 1))), (0, .ref bx), (1, .int (nI mm))]) hx hb dX6_countMoves_35 hl (k := 1) rfl (nI_1 i) (by decide) rfl (fun ls hl => ?_)
          refine lv_goto (tgt := 4) hx hb dX6_countMoves_38 (by decide) ?_
          exact ih4 (i + 1) _ (by omega) (by rw [zNum_s, if_pos c_25]; exact congrArg (· + 1) hcv) (by omega) _ _ hP hS _ (lv_sub hl [0, 1, 2, 3] rfl)
  exact lp 16 0 0 (by omega) rfl (by omega) _ _ hP hS _ (lv_sub hl [0, 1, 2, 3] rfl)

set_option maxHeartbeats 4000000 in
set_option maxRecDepth 100000 in
theorem c_X6_starts (l : Launch) (dC : Nat → ClassId) (dI : Nat → Nat → Nat) (cyI cyJ : ClassId) (pI : Int32) (bx bl ba bt bg be bf bw bs bm bn bb bu bh : Nat) (thr sI tI wI cI : Int32) (Af lf : Nat → Int32) (j : Nat) (hj : j ≤ 4) (hnd : [bx, ba, bl].Nodup) : Met l yX6_starts wsX6_starts ({ frames := 0, cells := 0, slots := 0, locals := 0 }) (zPc [.ref bx, .int (nI j)] (dC, dI) vwCl [(cyI, .int), (cyJ, .long)] [(bx, .inr (3, [.int thr, .int pI, .int sI, .int tI, .int wI, .int cI, .ref bl, .ref ba, .ref bt, .ref bg, .ref be, .ref bf, .ref bw, .ref bs, .ref bm, .ref bn, .ref bb, .ref bu, .ref bh])), (ba, .inl (cyI, 32, .inl Af)), (bl, .inl (cyI, 2, .inl lf))] (fun _ => True)) (va_Qv (fun u => zRow u.1 0 0 j j ∧ u.2 0 = 0 ∧ u.2 1 = 0) (fun (u : (Nat → Int32) × (Nat → Int32)) t => va_P (dC, dI) vwCl ([(bx, .inr (3, [.int thr, .int (nI j), .int 0, .int (-1), .int (-1), .int 0, .ref bl, .ref ba, .ref bt, .ref bg, .ref be, .ref bf, .ref bw, .ref bs, .ref bm, .ref bn, .ref bb, .ref bu, .ref bh])), (ba, .inl (cyI, 32, .inl u.1)), (bl, .inl (cyI, 2, .inl u.2))]) t.heap) (zA [bx, ba, bl])) 0 0 (zA [bx, ba, bl]) := by
  refine Met.ofW (cc := cX6_starts) (maxL := 3) (ret := none) (by decide) rfl ?_
  intro p e s m args below meth c s₁ B hml hv
  obtain ⟨rfl, hP, hK, hX⟩ := hv
  have hx := B.exec
  have hb := B.bytes
  have hr := B.returns
  have hts := atoms_spec (ws := wsX6_starts) B.pre
  have hown : s.vm.findClass RX6 = some m.cls := findClass_of_methodNamed B.named
  have hlocks := B.notSynchronized
  have hinX6 : ∀ w ∈ wsX60, w ∈ wsX6_starts := by decide +kernel
  have hl := lv_entry ([.ref bx, .int (nI j)]) (n := 3) (Nat.le_of_ble_eq_true rfl)
  rw [lg_entry_eq]
  generalize (lg_sl ([.ref bx, .int (nI j)]) ++ List.replicate (3 - (lg_sl ([.ref bx, .int (nI j)])).length) Slot.unset).toArray = ls at hl ⊢
  have hl : lv_has ls 3 [(0, .ref bx), (1, .int (nI j))] := hl
  have hS : va_S (zA [bx, ba, bl]) s.heap s.heap [] := va_S.rf
  have hDD : zD (zA [bx, ba, bl]) [bx, ba, bl] := ⟨hnd, fun _ h => h⟩
  generalize hQe : MQ below _ _ _ _ _ _ = Q
  refine lv_aload_n hx hb dX6_starts_0 rfl (lv_at hl 0 rfl) ?_
  refine lv_iload_n hx hb dX6_starts_1 rfl (lv_at hl 1 rfl) ?_
  refine va_put (D := (dC, dI)) (ci := 3) (v := .int (nI j)) (ty := .int) (C := RX6) (T := TX6) (N := 19) hx hb hts hinX6 tyX6 tyX6_ok nmX6 hown hK hP (hDD.va rfl) hS 0 rfl rfl 1 (by decide) (hts (.fieldLink RX6 90 "RoyalUrTableModel" "pieces" "I") (List.mem_of_getElem? (i := 1) rfl)) (fun _ h9 => h9) rfl (by decide +kernel) rfl rfl (Nat.le_of_ble_eq_true rfl) dX6_starts_2 (fun H locs hP hD9 hS => ?_)
  have hP : va_P (dC, dI) vwCl [(bx, .inr (3, [.int thr, .int (nI j), .int sI, .int tI, .int wI, .int cI, .ref bl, .ref ba, .ref bt, .ref bg, .ref be, .ref bf, .ref bw, .ref bs, .ref bm, .ref bn, .ref bb, .ref bu, .ref bh])), (ba, .inl (cyI, 32, .inl Af)), (bl, .inl (cyI, 2, .inl lf))] H := hP
  refine lv_aload_n hx hb dX6_starts_5 rfl (lv_at hl 0 rfl) ?_
  refine lv_iconst (v := 0) hx hb dX6_starts_6 (by decide) ?_
  refine va_put (D := (dC, dI)) (ci := 3) (v := .int 0) (ty := .int) (C := RX6) (T := TX6) (N := 19) hx hb hts hinX6 tyX6 tyX6_ok nmX6 hown hK hP (hDD.va rfl) hS 0 rfl rfl 2 (by decide) (hts (.fieldLink RX6 128 "RoyalUrTableModel" "side" "I") (List.mem_of_getElem? (i := 2) rfl)) (fun _ h9 => h9) rfl (by decide +kernel) rfl rfl (Nat.le_of_ble_eq_true rfl) dX6_starts_7 (fun H locs hP hD9 hS => ?_)
  have hP : va_P (dC, dI) vwCl [(bx, .inr (3, [.int thr, .int (nI j), .int 0, .int tI, .int wI, .int cI, .ref bl, .ref ba, .ref bt, .ref bg, .ref be, .ref bf, .ref bw, .ref bs, .ref bm, .ref bn, .ref bb, .ref bu, .ref bh])), (ba, .inl (cyI, 32, .inl Af)), (bl, .inl (cyI, 2, .inl lf))] H := hP
  refine lv_aload_n hx hb dX6_starts_10 rfl (lv_at hl 0 rfl) ?_
  refine lv_iconst (v := -1) hx hb dX6_starts_11 (by decide) ?_
  refine va_put (D := (dC, dI)) (ci := 3) (v := .int (-1)) (ty := .int) (C := RX6) (T := TX6) (N := 19) hx hb hts hinX6 tyX6 tyX6_ok nmX6 hown hK hP (hDD.va rfl) hS 0 rfl rfl 3 (by decide) (hts (.fieldLink RX6 9 "RoyalUrTableModel" "told" "I") (List.mem_of_getElem? (i := 3) rfl)) (fun _ h9 => h9) rfl (by decide +kernel) rfl rfl (Nat.le_of_ble_eq_true rfl) dX6_starts_12 (fun H locs hP hD9 hS => ?_)
  have hP : va_P (dC, dI) vwCl [(bx, .inr (3, [.int thr, .int (nI j), .int 0, .int (-1), .int wI, .int cI, .ref bl, .ref ba, .ref bt, .ref bg, .ref be, .ref bf, .ref bw, .ref bs, .ref bm, .ref bn, .ref bb, .ref bu, .ref bh])), (ba, .inl (cyI, 32, .inl Af)), (bl, .inl (cyI, 2, .inl lf))] H := hP
  refine lv_aload_n hx hb dX6_starts_15 rfl (lv_at hl 0 rfl) ?_
  refine lv_iconst (v := -1) hx hb dX6_starts_16 (by decide) ?_
  refine va_put (D := (dC, dI)) (ci := 3) (v := .int (-1)) (ty := .int) (C := RX6) (T := TX6) (N := 19) hx hb hts hinX6 tyX6 tyX6_ok nmX6 hown hK hP (hDD.va rfl) hS 0 rfl rfl 4 (by decide) (hts (.fieldLink RX6 13 "RoyalUrTableModel" "won" "I") (List.mem_of_getElem? (i := 4) rfl)) (fun _ h9 => h9) rfl (by decide +kernel) rfl rfl (Nat.le_of_ble_eq_true rfl) dX6_starts_17 (fun H locs hP hD9 hS => ?_)
  have hP : va_P (dC, dI) vwCl [(bx, .inr (3, [.int thr, .int (nI j), .int 0, .int (-1), .int (-1), .int cI, .ref bl, .ref ba, .ref bt, .ref bg, .ref be, .ref bf, .ref bw, .ref bs, .ref bm, .ref bn, .ref bb, .ref bu, .ref bh])), (ba, .inl (cyI, 32, .inl Af)), (bl, .inl (cyI, 2, .inl lf))] H := hP
  refine lv_aload_n hx hb dX6_starts_20 rfl (lv_at hl 0 rfl) ?_
  refine lv_iconst (v := 0) hx hb dX6_starts_21 (by decide) ?_
  refine va_put (D := (dC, dI)) (ci := 3) (v := .int 0) (ty := .int) (C := RX6) (T := TX6) (N := 19) hx hb hts hinX6 tyX6 tyX6_ok nmX6 hown hK hP (hDD.va rfl) hS 0 rfl rfl 5 (by decide) (hts (.fieldLink RX6 140 "RoyalUrTableModel" "count" "I") (List.mem_of_getElem? (i := 5) rfl)) (fun _ h9 => h9) rfl (by decide +kernel) rfl rfl (Nat.le_of_ble_eq_true rfl) dX6_starts_22 (fun H locs hP hD9 hS => ?_)
  have hP : va_P (dC, dI) vwCl [(bx, .inr (3, [.int thr, .int (nI j), .int 0, .int (-1), .int (-1), .int 0, .ref bl, .ref ba, .ref bt, .ref bg, .ref be, .ref bf, .ref bw, .ref bs, .ref bm, .ref bn, .ref bb, .ref bu, .ref bh])), (ba, .inl (cyI, 32, .inl Af)), (bl, .inl (cyI, 2, .inl lf))] H := hP
  refine lv_iconst (v := 0) hx hb dX6_starts_25 (by decide) ?_
  refine lv_istore_n (lv' := [(2, .int 0), (0, .ref bx), (1, .int (nI j))]) hx hb dX6_starts_26 rfl hl (by decide) rfl (fun ls hl => ?_)
  have lp : ∀ (n9 : Nat) (i : Nat) (g : Nat → Int32), i ≤ 32 → (∀ q, q < i → g q = (if q % 16 = 0 then nI j else 0)) → 32 - i < n9 → ∀ (H : Heap) (locs : List Loc), va_P (dC, dI) vwCl [(bx, .inr (3, [.int thr, .int (nI j), .int 0, .int (-1), .int (-1), .int 0, .ref bl, .ref ba, .ref bt, .ref bg, .ref be, .ref bf, .ref bw, .ref bs, .ref bm, .ref bn, .ref bb, .ref bu, .ref bh])), (ba, .inl (cyI, 32, .inl g)), (bl, .inl (cyI, 2, .inl lf))] H → va_S (zA [bx, ba, bl]) s.heap H locs → ∀ ls : Array Slot, lv_has ls 3 [(2, .int (nI i)), (0, .ref bx), (1, .int (nI j))] → W p l e (headSpec wsX6_starts ({ frames := 0, cells := 0, slots := 0, locals := 0 })).room s m ([.ref bx, .int (nI j)] : List Value).toArray below meth c H locs 0 0 Q (F0 m 27 ls []) := by
    intro n9
    induction n9 with
    | zero => intro i g hi2 hg hm9; exact absurd hm9 (Nat.not_lt_zero _)
    | succ n9 ih27 =>
      intro i g hi2 hg hm9 H locs hP hS ls hl
      refine lv_iload_n hx hb dX6_starts_27 rfl (lv_at hl 0 rfl) ?_
      refine lv_bipush (v := 32) hx hb dX6_starts_28 (by decide) ?_
      refine lv_icmp_ge (tgt := 57) hx hb dX6_starts_30 (by decide) (fun c_30 => ?_) (fun c_30 => ?_)
      · skip
        have c_30 : 32 ≤ i := (nI_leI (a := 32) (b := i) (by omega) (by omega)).mp c_30
        refine lv_aload_n hx hb dX6_starts_57 rfl (lv_at hl 1 rfl) ?_
        refine va_get (D := (dC, dI)) (ci := 3) (v := .ref bl) (C := RX6) (T := TX6) (N := 19) hx hb hts hinX6 hown hK hP 0 rfl rfl 6 (by decide) (hts (.fieldLink RX6 16 "RoyalUrTableModel" "lost" "[I") (List.mem_of_getElem? (i := 7) rfl)) (fun _ h9 => h9) rfl dX6_starts_58 ?_
        refine lv_iconst (v := 0) hx hb dX6_starts_61 (by decide) ?_
        refine lv_iconst (v := 0) hx hb dX6_starts_62 (by decide) ?_
        refine zi_iast hx hb hK hP hDD hS 2 0 rfl rfl (j := 0) rfl (by omega) (by decide) dX6_starts_63 (fun H locs hP hS => ?_)
        have hP : va_P (dC, dI) vwCl [(bx, .inr (3, [.int thr, .int (nI j), .int 0, .int (-1), .int (-1), .int 0, .ref bl, .ref ba, .ref bt, .ref bg, .ref be, .ref bf, .ref bw, .ref bs, .ref bm, .ref bn, .ref bb, .ref bu, .ref bh])), (ba, .inl (cyI, 32, .inl g)), (bl, .inl (cyI, 2, .inl (upd lf 0 0)))] H := hP
        refine lv_aload_n hx hb dX6_starts_64 rfl (lv_at hl 1 rfl) ?_
        refine va_get (D := (dC, dI)) (ci := 3) (v := .ref bl) (C := RX6) (T := TX6) (N := 19) hx hb hts hinX6 hown hK hP 0 rfl rfl 6 (by decide) (hts (.fieldLink RX6 16 "RoyalUrTableModel" "lost" "[I") (List.mem_of_getElem? (i := 7) rfl)) (fun _ h9 => h9) rfl dX6_starts_65 ?_
        refine lv_iconst (v := 1) hx hb dX6_starts_68 (by decide) ?_
        refine lv_iconst (v := 0) hx hb dX6_starts_69 (by decide) ?_
        refine zi_iast hx hb hK hP hDD hS 2 0 rfl rfl (j := 1) rfl (by omega) (by decide) dX6_starts_70 (fun H locs hP hS => ?_)
        have hP : va_P (dC, dI) vwCl [(bx, .inr (3, [.int thr, .int (nI j), .int 0, .int (-1), .int (-1), .int 0, .ref bl, .ref ba, .ref bt, .ref bg, .ref be, .ref bf, .ref bw, .ref bs, .ref bm, .ref bn, .ref bb, .ref bu, .ref bh])), (ba, .inl (cyI, 32, .inl g)), (bl, .inl (cyI, 2, .inl (upd (upd lf 0 0) 1 0)))] H := hP
        subst hQe
        exact W.vret hx hb hr (fun t ht hW => ⟨⟨(g, upd (upd lf 0 0) 1 0), rfl, ⟨zst_row hj (fun q hq => hg q (by omega)), rfl, rfl⟩, zh ht hP⟩, hS.F ht⟩) hS.2.2 dX6_starts_71
      · skip
        have c_30 : ¬ 32 ≤ i := fun h9 => c_30 ((nI_leI (a := 32) (b := i) (by omega) (by omega)).mpr h9)
        refine lv_aload_n hx hb dX6_starts_33 rfl (lv_at hl 1 rfl) ?_
        refine va_get (D := (dC, dI)) (ci := 3) (v := .ref ba) (C := RX6) (T := TX6) (N := 19) hx hb hts hinX6 hown hK hP 0 rfl rfl 7 (by decide) (hts (.fieldLink RX6 20 "RoyalUrTableModel" "at" "[I") (List.mem_of_getElem? (i := 6) rfl)) (fun _ h9 => h9) rfl dX6_starts_34 ?_
        refine lv_iload_n hx hb dX6_starts_37 rfl (lv_at hl 0 rfl) ?_
        refine lv_iload_n hx hb dX6_starts_38 rfl (lv_at hl 0 rfl) ?_
        refine lv_bipush (v := 16) hx hb dX6_starts_39 (by decide) ?_
        refine lv_irem hx hb dX6_starts_41 (by decide) ?_
        refine zz_i (y := nI (i % 16)) (pk_rem (a := i) (d := 16) (by omega) (by decide) (by decide)) ?_
        refine lv_if_ne (tgt := 49) hx hb dX6_starts_42 (by decide) (fun c_42 => ?_) (fun c_42 => ?_)
        · skip
          have c_42 : ¬ (i % 16) = 0 := fun h9 => c_42 ((nI_eq (a := i % 16) (b := 0) (by omega) (by omega)).mpr h9)
          refine lv_iconst (v := 0) hx hb dX6_starts_49 (by decide) ?_
          refine zi_iast hx hb hK hP hDD hS 1 0 rfl rfl (j := i) rfl (by omega) (by decide) dX6_starts_50 (fun H locs hP hS => ?_)
          have hP : va_P (dC, dI) vwCl [(bx, .inr (3, [.int thr, .int (nI j), .int 0, .int (-1), .int (-1), .int 0, .ref bl, .ref ba, .ref bt, .ref bg, .ref be, .ref bf, .ref bw, .ref bs, .ref bm, .ref bn, .ref bb, .ref bu, .ref bh])), (ba, .inl (cyI, 32, .inl (upd g i 0))), (bl, .inl (cyI, 2, .inl lf))] H := hP
          refine lv_iinc (v := nI (i + 1)) (lv' := [(2, .int (nI (i + 1))), (0, .ref bx), (1, .int (nI j))]) hx hb dX6_starts_51 hl (k := 0) rfl (nI_1 i) (by decide) rfl (fun ls hl => ?_)
          refine lv_goto (tgt := 27) hx hb dX6_starts_54 (by decide) ?_
          exact ih27 (i + 1) _ (by omega) (zst_s hg (if_neg c_42).symm) (by omega) _ _ hP hS _ (lv_sub hl [0, 1, 2] rfl)
        · skip
          have c_42 : (i % 16) = 0 := (nI_eq (a := i % 16) (b := 0) (by omega) (by omega)).mp c_42
          refine lv_iload_n hx hb dX6_starts_45 rfl (lv_at hl 2 rfl) ?_
          refine lv_goto (tgt := 50) hx hb dX6_starts_46 (by decide) ?_
          refine zi_iast hx hb hK hP hDD hS 1 0 rfl rfl (j := i) rfl (by omega) (by decide) dX6_starts_50 (fun H locs hP hS => ?_)
          have hP : va_P (dC, dI) vwCl [(bx, .inr (3, [.int thr, .int (nI j), .int 0, .int (-1), .int (-1), .int 0, .ref bl, .ref ba, .ref bt, .ref bg, .ref be, .ref bf, .ref bw, .ref bs, .ref bm, .ref bn, .ref bb, .ref bu, .ref bh])), (ba, .inl (cyI, 32, .inl (upd g i (nI j)))), (bl, .inl (cyI, 2, .inl lf))] H := hP
          refine lv_iinc (v := nI (i + 1)) (lv' := [(2, .int (nI (i + 1))), (0, .ref bx), (1, .int (nI j))]) hx hb dX6_starts_51 hl (k := 0) rfl (nI_1 i) (by decide) rfl (fun ls hl => ?_)
          refine lv_goto (tgt := 27) hx hb dX6_starts_54 (by decide) ?_
          exact ih27 (i + 1) _ (by omega) (zst_s hg (if_pos c_42).symm) (by omega) _ _ hP hS _ (lv_sub hl [0, 1, 2] rfl)
  exact lp 33 0 Af (by omega) (fun _ h => absurd h (Nat.not_lt_zero _)) (by omega) _ _ hP hS _ (lv_sub hl [0, 1, 2] rfl)

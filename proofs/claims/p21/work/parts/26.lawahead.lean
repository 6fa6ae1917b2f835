/-! the law reckons worths: without looking ahead, with one throw, behind a move -/
theorem zhome_n {k n : Nat} (h : zok k n) (c : ¬ dg n 15 = k) : zhome n = false := by
  cases hz : zhome n
  · rfl
  · exact absurd ((zhome_iff h).mp hz) c
theorem zBM_h {V : Nat → Nat → Nat} {own oth fr m : Nat} (h : zhome (zsh own fr (fr + m)) = true) : zBM V own oth fr m = 1000000000 := if_pos h
set_option maxHeartbeats 4000000 in
set_option maxRecDepth 100000 in
theorem c_L_plain (l : Launch) (dC : Nat → ClassId) (dI : Nat → Nat → Nat) (cyI cyJ : ClassId) (tb ax a0 a1 ae aw at_ rx : Nat) (pI tI mk wn cnt : Int32) (wf F : Nat → Int32) (k kk sd own oth : Nat) (hk1 : 1 ≤ k) (hsd : sd ≤ 1) (hr9 : zRow F 0 sd own oth) (hO : zok k own) (hQ : zok k oth) (hg : zgd own oth) (hkk : kk ≤ 60) (htb : zTb kk wf) (hnd : [ax, ae, at_, rx].Nodup) : Met l yL_plain wsL_plain ({ frames := 40, cells := 0, slots := 0, locals := 900 }) (zPc [.ref ax, .ref rx, .int (nI sd), .int (nI k)] (dC, dI) vwCl [(cyI, .int)] [(ax, .inr (2, [.ref a0, .ref a1, .ref ae, .ref aw, .int pI, .int tI, .int mk, .int wn, .int cnt])), (ae, .inr (0, [.ref at_, .int (nI kk)])), (at_, .inl (cyI, 13500, .inl wf)), (rx, .inl (cyI, 32, .inl F))] (fun U => zX tb (zA [ax, ae, at_, rx]) U U.heap)) (va_Qi (fun (r : Int32) (u : Nat × (Nat → Int32)) => r = nI (zLf k own oth) ∧ zTb u.1 u.2 ∧ u.1 ≤ 60) (fun (u : Nat × (Nat → Int32)) t => va_P (dC, dI) vwCl ([(ax, .inr (2, [.ref a0, .ref a1, .ref ae, .ref aw, .int pI, .int tI, .int mk, .int wn, .int cnt])), (ae, .inr (0, [.ref at_, .int (nI u.1)])), (at_, .inl (cyI, 13500, .inl u.2)), (rx, .inl (cyI, 32, .inl F))]) t.heap) (zA [ax, ae, at_, rx])) 0 0 (zA [ax, ae, at_, rx]) := by
  refine Met.ofW (cc := cL_plain) (maxL := 7) (ret := (some .int)) (by decide) rfl ?_
  intro p e s m args below meth c s₁ B hml hv
  obtain ⟨rfl, hP, hK, hX⟩ := hv
  have hx := B.exec
  have hb := B.bytes
  have hr := B.returns
  have hts := atoms_spec (ws := wsL_plain) B.pre
  have hown : s.vm.findClass RL = some m.cls := findClass_of_methodNamed B.named
  have hlocks := B.notSynchronized
  have hl := lv_entry ([.ref ax, .ref rx, .int (nI sd), .int (nI k)]) (n := 7) (Nat.le_of_ble_eq_true rfl)
  rw [lg_entry_eq]
  generalize (lg_sl ([.ref ax, .ref rx, .int (nI sd), .int (nI k)]) ++ List.replicate (7 - (lg_sl ([.ref ax, .ref rx, .int (nI sd), .int (nI k)])).length) Slot.unset).toArray = ls at hl ⊢
  have hl : lv_has ls 7 [(0, .ref ax), (1, .ref rx), (2, .int (nI sd)), (3, .int (nI k))] := hl
  have hS : va_S (zA [ax, ae, at_, rx]) s.heap s.heap [] := va_S.rf
  have hDD : zD (zA [ax, ae, at_, rx]) [ax, ae, at_, rx] := ⟨hnd, fun _ h => h⟩
  generalize hQe : MQ below _ _ _ _ _ _ = Q
  have hk4 := hO.1
  have hp1 := hO.ps
  have hp2 := hQ.ps
  have hg8 := dg_lt own 15
  have hg9 := dg_lt oth 15
  refine lv_iconst (v := -1) hx hb dL_plain_0 (by decide) ?_
  refine lv_istore (lv' := [(4, .int (-1)), (0, .ref ax), (1, .ref rx), (2, .int (nI sd)), (3, .int (nI k))]) hx hb dL_plain_1 hl (by decide) rfl (fun ls hl => ?_)
  refine lv_iconst (v := -1) hx hb dL_plain_3 (by decide) ?_
  refine lv_istore (lv' := [(5, .int (-1)), (4, .int (-1)), (0, .ref ax), (1, .ref rx), (2, .int (nI sd)), (3, .int (nI k))]) hx hb dL_plain_4 hl (by decide) rfl (fun ls hl => ?_)
  refine lv_iconst (v := 0) hx hb dL_plain_6 (by decide) ?_
  refine lv_istore (lv' := [(6, .int 0), (5, .int (-1)), (4, .int (-1)), (0, .ref ax), (1, .ref rx), (2, .int (nI sd)), (3, .int (nI k))]) hx hb dL_plain_7 hl (by decide) rfl (fun ls hl => ?_)
  have lp : ∀ (n9 : Nat) (i : Nat) (fv : Int32) (gv : Int32), i ≤ 15 → fv = zls own i → gv = zls oth i → 15 - i < n9 → ∀ (H : Heap) (locs : List Loc), va_P (dC, dI) vwCl [(ax, .inr (2, [.ref a0, .ref a1, .ref ae, .ref aw, .int pI, .int tI, .int mk, .int wn, .int cnt])), (ae, .inr (0, [.ref at_, .int (nI kk)])), (at_, .inl (cyI, 13500, .inl wf)), (rx, .inl (cyI, 32, .inl F))] H → va_S (zA [ax, ae, at_, rx]) s.heap H locs → ∀ ls : Array Slot, lv_has ls 7 [(6, .int (nI i)), (5, .int gv), (4, .int fv), (0, .ref ax), (1, .ref rx), (2, .int (nI sd)), (3, .int (nI k))] → W p l e (headSpec wsL_plain ({ frames := 40, cells := 0, slots := 0, locals := 900 })).room s m ([.ref ax, .ref rx, .int (nI sd), .int (nI k)] : List Value).toArray below meth c H locs 0 0 Q (F0 m 9 ls []) := by
    intro n9
    induction n9 with
    | zero => intro i fv gv hi2 hfv hgv hm9; exact absurd hm9 (Nat.not_lt_zero _)
    | succ n9 ih9 =>
      intro i fv gv hi2 hfv hgv hm9 H locs hP hS ls hl
      have hg1 := dg_lt own i
      have hg2 := dg_lt oth i
      refine lv_iload hx hb dL_plain_9 (lv_at hl 0 rfl) ?_
      refine lv_bipush (v := 15) hx hb dL_plain_11 (by decide) ?_
      refine lv_icmp_ge (tgt := 66) hx hb dL_plain_13 (by decide) (fun c_13 => ?_) (fun c_13 => ?_)
      · skip
        have c_13 : 15 ≤ i := (nI_leI (a := 15) (b := i) (by omega) (by omega)).mp c_13
        refine lv_aload_n hx hb dL_plain_66 rfl (lv_at hl 4 rfl) ?_
        refine lv_bipush (v := 16) hx hb dL_plain_67 (by decide) ?_
        refine lv_iload_n hx hb dL_plain_69 rfl (lv_at hl 5 rfl) ?_
        refine lv_imul hx hb dL_plain_70 ?_
        refine zz_i (y := nI (16 * sd)) (pk_mul 16 sd) ?_
        refine lv_bipush (v := 15) hx hb dL_plain_71 (by decide) ?_
        refine lv_iadd hx hb dL_plain_73 ?_
        refine zz_i (y := nI (16 * sd + 15)) (nI_add (16 * sd) 15) ?_
        refine zi_iald hx hb hK hP 3 0 rfl rfl (j := 16 * sd + 15) rfl (by omega) (by decide) dL_plain_74 ?_
        refine zz_i (y := nI (dg own 15)) (zr1 hr9 (by omega)) ?_
        refine lv_iload_n hx hb dL_plain_75 rfl (lv_at hl 6 rfl) ?_
        refine lv_iconst (v := 1) hx hb dL_plain_76 (by decide) ?_
        refine lv_isub hx hb dL_plain_77 ?_
        refine zz_i (y := nI (k - 1)) (pk_sub (a := k) (b := 1) (by omega)) ?_
        refine lv_icmp_ne (tgt := 109) hx hb dL_plain_78 (by decide) (fun c_78 => ?_) (fun c_78 => ?_)
        · skip
          have c_78 : ¬ (dg own 15) = (k - 1) := fun h9 => c_78 ((nI_eq (a := dg own 15) (b := k - 1) (by omega) (by omega)).mpr h9)
          refine lv_ldc (v := 500000000) hx hb hown (hts (.constant RL 31 (500000000)) (List.mem_of_getElem? (i := 1) rfl)) dL_plain_109 ?_
          refine lv_ldc (v := 4000000) hx hb hown (hts (.constant RL 32 (4000000)) (List.mem_of_getElem? (i := 2) rfl)) dL_plain_111 ?_
          refine lv_aload_n hx hb dL_plain_113 rfl (lv_at hl 4 rfl) ?_
          refine lv_iload_n hx hb dL_plain_114 rfl (lv_at hl 5 rfl) ?_
          refine zro_i (va_runS (As := [.ref rx, .int (nI sd)]) (rest := [.int 4000000, .int 500000000]) ⟨hx, hb, hml, hown, hts⟩ (c_L_progress l dC dI cyI cyJ rx F sd own (by omega) hr9.1) (va_cwS 2 hts gL_plain_L_progress rfl rfl rfl (by decide +kernel) ⟨(show 0 + 1 ≤ 40 by omega), (show 8 + (4 + 11) + 0 ≤ 900 by omega)⟩) (zPc_S zB_T hP hK [3] rfl (fun _ _ _ => trivial)) rfl rfl hl.1 rfl (lv_room (Nat.le_of_ble_eq_true rfl)) dL_plain_115 ⟨Nat.zero_le _, Nat.zero_le _⟩) hP hS (fun H locs hP hS => ?_)
          refine lv_aload_n hx hb dL_plain_118 rfl (lv_at hl 4 rfl) ?_
          refine lv_iconst (v := 1) hx hb dL_plain_119 (by decide) ?_
          refine lv_iload_n hx hb dL_plain_120 rfl (lv_at hl 5 rfl) ?_
          refine lv_isub hx hb dL_plain_121 ?_
          refine zz_i (y := nI (1 - sd)) (pk_sub (a := 1) (b := sd) (by omega)) ?_
          refine zro_i (va_runS (As := [.ref rx, .int (nI (1 - sd))]) (rest := [.int (nI (psum own 16)), .int 4000000, .int 500000000]) ⟨hx, hb, hml, hown, hts⟩ (c_L_progress l dC dI cyI cyJ rx F (1 - sd) oth (by omega) hr9.2) (va_cwS 2 hts gL_plain_L_progress rfl rfl rfl (by decide +kernel) ⟨(show 0 + 1 ≤ 40 by omega), (show 8 + (4 + 11) + 0 ≤ 900 by omega)⟩) (zPc_S zB_T hP hK [3] rfl (fun _ _ _ => trivial)) rfl rfl hl.1 rfl (lv_room (Nat.le_of_ble_eq_true rfl)) dL_plain_122 ⟨Nat.zero_le _, Nat.zero_le _⟩) hP hS (fun H locs hP hS => ?_)
          refine lv_isub hx hb dL_plain_125 ?_
          refine lv_imul hx hb dL_plain_126 ?_
          refine lv_iadd hx hb dL_plain_127 ?_
          refine zz_i (y := nI (500000000 + 4000000 * psum own 16 - 4000000 * psum oth 16)) (zlead hp1 hp2) ?_
          subst hQe
          exact W.iret (v := nI (500000000 + 4000000 * psum own 16 - 4000000 * psum oth 16)) hx hb hr (fun t ht hW => ⟨⟨_, (kk, wf), rfl, ⟨(by rw [zLf, if_neg (fun h => c_78 h.1)]; exact congrArg nI (by omega)), htb, hkk⟩, zh ht hP⟩, hS.F ht⟩) hS.2.2 dL_plain_128
        · skip
          have c_78 : (dg own 15) = (k - 1) := (nI_eq (a := dg own 15) (b := k - 1) (by omega) (by omega)).mp c_78
          refine lv_aload_n hx hb dL_plain_81 rfl (lv_at hl 4 rfl) ?_
          refine lv_bipush (v := 16) hx hb dL_plain_82 (by decide) ?_
          refine lv_iconst (v := 1) hx hb dL_plain_84 (by decide) ?_
          refine lv_iload_n hx hb dL_plain_85 rfl (lv_at hl 5 rfl) ?_
          refine lv_isub hx hb dL_plain_86 ?_
          refine zz_i (y := nI (1 - sd)) (pk_sub (a := 1) (b := sd) (by omega)) ?_
          refine lv_imul hx hb dL_plain_87 ?_
          refine zz_i (y := nI (16 * (1 - sd))) (pk_mul 16 (1 - sd)) ?_
          refine lv_bipush (v := 15) hx hb dL_plain_88 (by decide) ?_
          refine lv_iadd hx hb dL_plain_90 ?_
          refine zz_i (y := nI (16 * (1 - sd) + 15)) (nI_add (16 * (1 - sd)) 15) ?_
          refine zi_iald hx hb hK hP 3 0 rfl rfl (j := 16 * (1 - sd) + 15) rfl (by omega) (by decide) dL_plain_91 ?_
          refine zz_i (y := nI (dg oth 15)) (zr2 hr9 (by omega)) ?_
          refine lv_iload_n hx hb dL_plain_92 rfl (lv_at hl 6 rfl) ?_
          refine lv_iconst (v := 1) hx hb dL_plain_93 (by decide) ?_
          refine lv_isub hx hb dL_plain_94 ?_
          refine zz_i (y := nI (k - 1)) (pk_sub (a := k) (b := 1) (by omega)) ?_
          refine lv_icmp_ne (tgt := 109) hx hb dL_plain_95 (by decide) (fun c_95 => ?_) (fun c_95 => ?_)
          · skip
            have c_95 : ¬ (dg oth 15) = (k - 1) := fun h9 => c_95 ((nI_eq (a := dg oth 15) (b := k - 1) (by omega) (by omega)).mpr h9)
            refine lv_ldc (v := 500000000) hx hb hown (hts (.constant RL 31 (500000000)) (List.mem_of_getElem? (i := 1) rfl)) dL_plain_109 ?_
            refine lv_ldc (v := 4000000) hx hb hown (hts (.constant RL 32 (4000000)) (List.mem_of_getElem? (i := 2) rfl)) dL_plain_111 ?_
            refine lv_aload_n hx hb dL_plain_113 rfl (lv_at hl 4 rfl) ?_
            refine lv_iload_n hx hb dL_plain_114 rfl (lv_at hl 5 rfl) ?_
            refine zro_i (va_runS (As := [.ref rx, .int (nI sd)]) (rest := [.int 4000000, .int 500000000]) ⟨hx, hb, hml, hown, hts⟩ (c_L_progress l dC dI cyI cyJ rx F sd own (by omega) hr9.1) (va_cwS 2 hts gL_plain_L_progress rfl rfl rfl (by decide +kernel) ⟨(show 0 + 1 ≤ 40 by omega), (show 8 + (4 + 11) + 0 ≤ 900 by omega)⟩) (zPc_S zB_T hP hK [3] rfl (fun _ _ _ => trivial)) rfl rfl hl.1 rfl (lv_room (Nat.le_of_ble_eq_true rfl)) dL_plain_115 ⟨Nat.zero_le _, Nat.zero_le _⟩) hP hS (fun H locs hP hS => ?_)
            refine lv_aload_n hx hb dL_plain_118 rfl (lv_at hl 4 rfl) ?_
            refine lv_iconst (v := 1) hx hb dL_plain_119 (by decide) ?_
            refine lv_iload_n hx hb dL_plain_120 rfl (lv_at hl 5 rfl) ?_
            refine lv_isub hx hb dL_plain_121 ?_
            refine zz_i (y := nI (1 - sd)) (pk_sub (a := 1) (b := sd) (by omega)) ?_
            refine zro_i (va_runS (As := [.ref rx, .int (nI (1 - sd))]) (rest := [.int (nI (psum own 16)), .int 4000000, .int 500000000]) ⟨hx, hb, hml, hown, hts⟩ (c_L_progress l dC dI cyI cyJ rx F (1 - sd) oth (by omega) hr9.2) (va_cwS 2 hts gL_plain_L_progress rfl rfl rfl (by decide +kernel) ⟨(show 0 + 1 ≤ 40 by omega), (show 8 + (4 + 11) + 0 ≤ 900 by omega)⟩) (zPc_S zB_T hP hK [3] rfl (fun _ _ _ => trivial)) rfl rfl hl.1 rfl (lv_room (Nat.le_of_ble_eq_true rfl)) dL_plain_122 ⟨Nat.zero_le _, Nat.zero_le _⟩) hP hS (fun H locs hP hS => ?_)
            refine lv_isub hx hb dL_plain_125 ?_
            refine lv_imul hx hb dL_plain_126 ?_
            refine lv_iadd hx hb dL_plain_127 ?_
            refine zz_i (y := nI (500000000 + 4000000 * psum own 16 - 4000000 * psum oth 16)) (zlead hp1 hp2) ?_
            subst hQe
            exact W.iret (v := nI (500000000 + 4000000 * psum own 16 - 4000000 * psum oth 16)) hx hb hr (fun t ht hW => ⟨⟨_, (kk, wf), rfl, ⟨(by rw [zLf, if_neg (fun h => c_95 h.2)]; exact congrArg nI (by omega)), htb, hkk⟩, zh ht hP⟩, hS.F ht⟩) hS.2.2 dL_plain_128
          · skip
            have c_95 : (dg oth 15) = (k - 1) := (nI_eq (a := dg oth 15) (b := k - 1) (by omega) (by omega)).mp c_95
            have hz1 := zfs_lt hO hk1 c_78
            have hz2 := zfs_lt hQ hk1 c_95
            refine lv_aload_n hx hb dL_plain_98 rfl (lv_at hl 3 rfl) ?_
            refine lv_iload hx hb dL_plain_99 (lv_at hl 2 rfl) ?_
            refine zz_i (y := nI (zfs own 0 15)) (by rw [hfv, show i = 15 by omega]; exact zls_fs hO hk1 c_78) ?_
            refine lv_iload hx hb dL_plain_101 (lv_at hl 1 rfl) ?_
            refine zz_i (y := nI (zfs oth 0 15)) (by rw [hgv, show i = 15 by omega]; exact zls_fs hQ hk1 c_95) ?_
            refine lv_bipush (v := 40) hx hb dL_plain_103 (by decide) ?_
            refine zrw_i (w1 := fun u : Nat × (Nat → Int32) => [(ax, .inr (2, [.ref a0, .ref a1, .ref ae, .ref aw, .int pI, .int tI, .int mk, .int wn, .int cnt])), (ae, .inr (0, [.ref at_, .int (nI u.1)])), (at_, .inl (cyI, 13500, .inl u.2))]) (al := [ax, ae, at_]) (va_runV (As := [.int (nI (zfs own 0 15)), .int (nI (zfs oth 0 15)), .int 40]) (rest := []) ⟨hx, hb, hml, hown, hts⟩ (c_X5_ending_ok l dC dI cyI cyJ tb ax a0 a1 ae aw at_ pI tI mk wn cnt wf kk hkk htb (zfs own 0 15) (zfs oth 0 15) 40 (by omega) (by omega) (by decide) (zgd_end hO hQ hk1 hg c_78 c_95) (z_nd hDD.1 [0, 1, 2] (by decide) rfl)) (cwV 3 hts gL_plain_X5_ending rfl rfl rfl (by decide +kernel) ⟨(show 6 + 1 ≤ 40 by omega), (show 8 + (4 + 11) + 152 ≤ 900 by omega)⟩) (zPc_V (ci := 2) (q0 := 0) zB_X hP hK rfl rfl [0, 1, 2] rfl (zX_at hX hS (zA_pl (al := [ax, ae, at_, rx]) (bl := [ax, ae, at_]) [0, 1, 2] rfl))) rfl rfl hl.1 rfl (lv_room (Nat.le_of_ble_eq_true rfl)) dL_plain_105 ⟨Nat.zero_le _, Nat.zero_le _⟩) hP hDD hS [0, 1, 2] rfl (fun _ => rfl) (fun r_105 u_105 H locs hw_105 hP hS => ?_)
            have hP : va_P (dC, dI) vwCl [(ax, .inr (2, [.ref a0, .ref a1, .ref ae, .ref aw, .int pI, .int tI, .int mk, .int wn, .int cnt])), (ae, .inr (0, [.ref at_, .int (nI u_105.1)])), (at_, .inl (cyI, 13500, .inl u_105.2)), (rx, .inl (cyI, 32, .inl F))] H := hP
            subst hQe
            exact W.iret (v := r_105) hx hb hr (fun t ht hW => ⟨⟨_, u_105, rfl, ⟨(by rw [hw_105.1, zLf, if_pos ⟨c_78, c_95⟩]), hw_105.2.1, hw_105.2.2⟩, zh ht hP⟩, hS.F ht⟩) hS.2.2 dL_plain_108
      · skip
        have c_13 : ¬ 15 ≤ i := fun h9 => c_13 ((nI_leI (a := 15) (b := i) (by omega) (by omega)).mpr h9)
        refine lv_aload_n hx hb dL_plain_16 rfl (lv_at hl 4 rfl) ?_
        refine lv_bipush (v := 16) hx hb dL_plain_17 (by decide) ?_
        refine lv_iload_n hx hb dL_plain_19 rfl (lv_at hl 5 rfl) ?_
        refine lv_imul hx hb dL_plain_20 ?_
        refine zz_i (y := nI (16 * sd)) (pk_mul 16 sd) ?_
        refine lv_iload hx hb dL_plain_21 (lv_at hl 0 rfl) ?_
        refine lv_iadd hx hb dL_plain_23 ?_
        refine zz_i (y := nI (16 * sd + i)) (nI_add (16 * sd) i) ?_
        refine zi_iald hx hb hK hP 3 0 rfl rfl (j := 16 * sd + i) rfl (by omega) (by decide) dL_plain_24 ?_
        refine zz_i (y := nI (dg own i)) (zr1 hr9 (by omega)) ?_
        refine lv_if_le (tgt := 33) hx hb dL_plain_25 (by decide) (fun c_25 => ?_) (fun c_25 => ?_)
        · skip
          have c_25 : (dg own i) ≤ 0 := (nI_leI (a := dg own i) (b := 0) (by omega) (by omega)).mp c_25
          refine lv_iload hx hb dL_plain_33 (lv_at hl 2 rfl) ?_
          refine lv_istore (lv' := [(4, .int fv), (6, .int (nI i)), (5, .int gv), (0, .ref ax), (1, .ref rx), (2, .int (nI sd)), (3, .int (nI k))]) hx hb dL_plain_35 hl (by decide) rfl (fun ls hl => ?_)
          refine lv_aload_n hx hb dL_plain_37 rfl (lv_at hl 4 rfl) ?_
          refine lv_bipush (v := 16) hx hb dL_plain_38 (by decide) ?_
          refine lv_iconst (v := 1) hx hb dL_plain_40 (by decide) ?_
          refine lv_iload_n hx hb dL_plain_41 rfl (lv_at hl 5 rfl) ?_
          refine lv_isub hx hb dL_plain_42 ?_
          refine zz_i (y := nI (1 - sd)) (pk_sub (a := 1) (b := sd) (by omega)) ?_
          refine lv_imul hx hb dL_plain_43 ?_
          refine zz_i (y := nI (16 * (1 - sd))) (pk_mul 16 (1 - sd)) ?_
          refine lv_iload hx hb dL_plain_44 (lv_at hl 1 rfl) ?_
          refine lv_iadd hx hb dL_plain_46 ?_
          refine zz_i (y := nI (16 * (1 - sd) + i)) (nI_add (16 * (1 - sd)) i) ?_
          refine zi_iald hx hb hK hP 3 0 rfl rfl (j := 16 * (1 - sd) + i) rfl (by omega) (by decide) dL_plain_47 ?_
          refine zz_i (y := nI (dg oth i)) (zr2 hr9 (by omega)) ?_
          refine lv_if_le (tgt := 56) hx hb dL_plain_48 (by decide) (fun c_48 => ?_) (fun c_48 => ?_)
          · skip
            have c_48 : (dg oth i) ≤ 0 := (nI_leI (a := dg oth i) (b := 0) (by omega) (by omega)).mp c_48
            refine lv_iload hx hb dL_plain_56 (lv_at hl 2 rfl) ?_
            refine lv_istore (lv' := [(5, .int gv), (4, .int fv), (6, .int (nI i)), (0, .ref ax), (1, .ref rx), (2, .int (nI sd)), (3, .int (nI k))]) hx hb dL_plain_58 hl (by decide) rfl (fun ls hl => ?_)
            refine lv_iinc (v := nI (i + 1)) (lv' := [(6, .int (nI (i + 1))), (5, .int gv), (4, .int fv), (0, .ref ax), (1, .ref rx), (2, .int (nI sd)), (3, .int (nI k))]) hx hb dL_plain_60 hl (k := 2) rfl (nI_1 i) (by decide) rfl (fun ls hl => ?_)
            refine lv_goto (tgt := 9) hx hb dL_plain_63 (by decide) ?_
            exact ih9 (i + 1) _ _ (by omega) (by rw [zls_s, if_neg (by omega)]; exact hfv) (by rw [zls_s, if_neg (by omega)]; exact hgv) (by omega) _ _ hP hS _ (lv_sub hl [0, 1, 2, 3, 4, 5, 6] rfl)
          · skip
            have c_48 : ¬ (dg oth i) ≤ 0 := fun h9 => c_48 ((nI_leI (a := dg oth i) (b := 0) (by omega) (by omega)).mpr h9)
            refine lv_iload hx hb dL_plain_51 (lv_at hl 1 rfl) ?_
            refine lv_goto (tgt := 58) hx hb dL_plain_53 (by decide) ?_
            refine lv_istore (lv' := [(5, .int (nI i)), (4, .int fv), (6, .int (nI i)), (0, .ref ax), (1, .ref rx), (2, .int (nI sd)), (3, .int (nI k))]) hx hb dL_plain_58 hl (by decide) rfl (fun ls hl => ?_)
            refine lv_iinc (v := nI (i + 1)) (lv' := [(6, .int (nI (i + 1))), (5, .int (nI i)), (4, .int fv), (0, .ref ax), (1, .ref rx), (2, .int (nI sd)), (3, .int (nI k))]) hx hb dL_plain_60 hl (k := 2) rfl (nI_1 i) (by decide) rfl (fun ls hl => ?_)
            refine lv_goto (tgt := 9) hx hb dL_plain_63 (by decide) ?_
            exact ih9 (i + 1) _ _ (by omega) (by rw [zls_s, if_neg (by omega)]; exact hfv) (by rw [zls_s, if_pos (by omega)]) (by omega) _ _ hP hS _ (lv_sub hl [0, 1, 2, 3, 4, 5, 6] rfl)
        · skip
          have c_25 : ¬ (dg own i) ≤ 0 := fun h9 => c_25 ((nI_leI (a := dg own i) (b := 0) (by omega) (by omega)).mpr h9)
          refine lv_iload hx hb dL_plain_28 (lv_at hl 0 rfl) ?_
          refine lv_goto (tgt := 35) hx hb dL_plain_30 (by decide) ?_
          refine lv_istore (lv' := [(4, .int (nI i)), (6, .int (nI i)), (5, .int gv), (0, .ref ax), (1, .ref rx), (2, .int (nI sd)), (3, .int (nI k))]) hx hb dL_plain_35 hl (by decide) rfl (fun ls hl => ?_)
          refine lv_aload_n hx hb dL_plain_37 rfl (lv_at hl 4 rfl) ?_
          refine lv_bipush (v := 16) hx hb dL_plain_38 (by decide) ?_
          refine lv_iconst (v := 1) hx hb dL_plain_40 (by decide) ?_
          refine lv_iload_n hx hb dL_plain_41 rfl (lv_at hl 5 rfl) ?_
          refine lv_isub hx hb dL_plain_42 ?_
          refine zz_i (y := nI (1 - sd)) (pk_sub (a := 1) (b := sd) (by omega)) ?_
          refine lv_imul hx hb dL_plain_43 ?_
          refine zz_i (y := nI (16 * (1 - sd))) (pk_mul 16 (1 - sd)) ?_
          refine lv_iload hx hb dL_plain_44 (lv_at hl 1 rfl) ?_
          refine lv_iadd hx hb dL_plain_46 ?_
          refine zz_i (y := nI (16 * (1 - sd) + i)) (nI_add (16 * (1 - sd)) i) ?_
          refine zi_iald hx hb hK hP 3 0 rfl rfl (j := 16 * (1 - sd) + i) rfl (by omega) (by decide) dL_plain_47 ?_
          refine zz_i (y := nI (dg oth i)) (zr2 hr9 (by omega)) ?_
          refine lv_if_le (tgt := 56) hx hb dL_plain_48 (by decide) (fun c_48 => ?_) (fun c_48 => ?_)
          · skip
            have c_48 : (dg oth i) ≤ 0 := (nI_leI (a := dg oth i) (b := 0) (by omega) (by omega)).mp c_48
            refine lv_iload hx hb dL_plain_56 (lv_at hl 2 rfl) ?_
            refine lv_istore (lv' := [(5, .int gv), (4, .int (nI i)), (6, .int (nI i)), (0, .ref ax), (1, .ref rx), (2, .int (nI sd)), (3, .int (nI k))]) hx hb dL_plain_58 hl (by decide) rfl (fun ls hl => ?_)
            refine lv_iinc (v := nI (i + 1)) (lv' := [(6, .int (nI (i + 1))), (5, .int gv), (4, .int (nI i)), (0, .ref ax), (1, .ref rx), (2, .int (nI sd)), (3, .int (nI k))]) hx hb dL_plain_60 hl (k := 2) rfl (nI_1 i) (by decide) rfl (fun ls hl => ?_)
            refine lv_goto (tgt := 9) hx hb dL_plain_63 (by decide) ?_
            exact ih9 (i + 1) _ _ (by omega) (by rw [zls_s, if_pos (by omega)]) (by rw [zls_s, if_neg (by omega)]; exact hgv) (by omega) _ _ hP hS _ (lv_sub hl [0, 1, 2, 3, 4, 5, 6] rfl)
          · skip
            have c_48 : ¬ (dg oth i) ≤ 0 := fun h9 => c_48 ((nI_leI (a := dg oth i) (b := 0) (by omega) (by omega)).mpr h9)
            refine lv_iload hx hb dL_plain_51 (lv_at hl 1 rfl) ?_
            refine lv_goto (tgt := 58) hx hb dL_plain_53 (by decide) ?_
            refine lv_istore (lv' := [(5, .int (nI i)), (4, .int (nI i)), (6, .int (nI i)), (0, .ref ax), (1, .ref rx), (2, .int (nI sd)), (3, .int (nI k))]) hx hb dL_plain_58 hl (by decide) rfl (fun ls hl => ?_)
            refine lv_iinc (v := nI (i + 1)) (lv' := [(6, .int (nI (i + 1))), (5, .int (nI i)), (4, .int (nI i)), (0, .ref ax), (1, .ref rx), (2, .int (nI sd)), (3, .int (nI k))]) hx hb dL_plain_60 hl (k := 2) rfl (nI_1 i) (by decide) rfl (fun ls hl => ?_)
            refine lv_goto (tgt := 9) hx hb dL_plain_63 (by decide) ?_
            exact ih9 (i + 1) _ _ (by omega) (by rw [zls_s, if_pos (by omega)]) (by rw [zls_s, if_pos (by omega)]) (by omega) _ _ hP hS _ (lv_sub hl [0, 1, 2, 3, 4, 5, 6] rfl)
  exact lp 16 0 (-1) (-1) (by omega) rfl rfl (by omega) _ _ hP hS _ (lv_sub hl [0, 1, 2, 3, 4, 5, 6] rfl)

set_option maxHeartbeats 4000000 in
set_option maxRecDepth 100000 in
theorem c_L_ahead (l : Launch) (dC : Nat → ClassId) (dI : Nat → Nat → Nat) (cyI cyJ : ClassId) (tb ax a0 a1 ae aw at_ rx ry : Nat) (pI tI mk wn cnt : Int32) (wf F G : Nat → Int32) (k kk sd own oth : Nat) (hk1 : 1 ≤ k) (hsd : sd ≤ 1) (hr9 : zRow F 0 sd own oth) (hO : zok k own) (hQ : zok k oth) (hg : zgd own oth) (hkk : kk ≤ 60) (htb : zTb kk wf) (hnd : [ax, ae, at_, rx, ry].Nodup) : Met l yL_ahead wsL_ahead ({ frames := 50, cells := 0, slots := 0, locals := 1100 }) (zPc [.ref ax, .ref rx, .ref ry, .int (nI sd), .int (nI k)] (dC, dI) vwCl [(cyI, .int)] [(ax, .inr (2, [.ref a0, .ref a1, .ref ae, .ref aw, .int pI, .int tI, .int mk, .int wn, .int cnt])), (ae, .inr (0, [.ref at_, .int (nI kk)])), (at_, .inl (cyI, 13500, .inl wf)), (rx, .inl (cyI, 32, .inl F)), (ry, .inl (cyI, 32, .inl G))] (fun U => zX tb (zA [ax, ae, at_, rx, ry]) U U.heap)) (va_Qi (fun (r : Int32) (u : Nat × (Nat → Int32) × (Nat → Int32)) => r = nI (zV k 1 own oth) ∧ zTb u.1 u.2.1 ∧ u.1 ≤ 60) (fun (u : Nat × (Nat → Int32) × (Nat → Int32)) t => va_P (dC, dI) vwCl ([(ax, .inr (2, [.ref a0, .ref a1, .ref ae, .ref aw, .int pI, .int tI, .int mk, .int wn, .int cnt])), (ae, .inr (0, [.ref at_, .int (nI u.1)])), (at_, .inl (cyI, 13500, .inl u.2.1)), (rx, .inl (cyI, 32, .inl F)), (ry, .inl (cyI, 32, .inl u.2.2))]) t.heap) (zA [ax, ae, at_, rx, ry])) 0 0 (zA [ax, ae, at_, rx, ry]) := by
  refine Met.ofW (cc := cL_ahead) (maxL := 12) (ret := (some .int)) (by decide) rfl ?_
  intro p e s m args below meth c s₁ B hml hv
  obtain ⟨rfl, hP, hK, hX⟩ := hv
  have hx := B.exec
  have hb := B.bytes
  have hr := B.returns
  have hts := atoms_spec (ws := wsL_ahead) B.pre
  have hown : s.vm.findClass RL = some m.cls := findClass_of_methodNamed B.named
  have hlocks := B.notSynchronized
  have hl := lv_entry ([.ref ax, .ref rx, .ref ry, .int (nI sd), .int (nI k)]) (n := 12) (Nat.le_of_ble_eq_true rfl)
  rw [lg_entry_eq]
  generalize (lg_sl ([.ref ax, .ref rx, .ref ry, .int (nI sd), .int (nI k)]) ++ List.replicate (12 - (lg_sl ([.ref ax, .ref rx, .ref ry, .int (nI sd), .int (nI k)])).length) Slot.unset).toArray = ls at hl ⊢
  have hl : lv_has ls 12 [(0, .ref ax), (1, .ref rx), (2, .ref ry), (3, .int (nI sd)), (4, .int (nI k))] := hl
  have hS : va_S (zA [ax, ae, at_, rx, ry]) s.heap s.heap [] := va_S.rf
  have hDD : zD (zA [ax, ae, at_, rx, ry]) [ax, ae, at_, rx, ry] := ⟨hnd, fun _ h => h⟩
  generalize hQe : MQ below _ _ _ _ _ _ = Q
  have hk5 := hO.1
  have hfl : ∀ m, m ≤ 4 → (zBT (zV k 0) own oth) m ≤ 1000000000 := fun m _ => zBT_le (zV_le k 0) own oth m
  refine lv_lconst (v := 0) hx hb dL_ahead_0 (by decide) ?_
  refine lv_lstore (lv' := [(5, .long 0), (0, .ref ax), (1, .ref rx), (2, .ref ry), (3, .int (nI sd)), (4, .int (nI k))]) hx hb dL_ahead_1 hl (by decide) rfl (fun ls hl => ?_)
  refine lv_iconst (v := 0) hx hb dL_ahead_3 (by decide) ?_
  refine lv_istore (lv' := [(7, .int 0), (5, .long 0), (0, .ref ax), (1, .ref rx), (2, .ref ry), (3, .int (nI sd)), (4, .int (nI k))]) hx hb dL_ahead_4 hl (by decide) rfl (fun ls hl => ?_)
  have lo : ∀ (n9 : Nat) (i : Nat) (sv : Int64) (k1 : Nat) (w1 : Nat → Int32) (g1 : Nat → Int32), i ≤ 5 → sv = lN (zsm (zBT (zV k 0) own oth) i) → k1 ≤ 60 → zTb k1 w1 → 5 - i < n9 → ∀ (H : Heap) (locs : List Loc), va_P (dC, dI) vwCl [(ax, .inr (2, [.ref a0, .ref a1, .ref ae, .ref aw, .int pI, .int tI, .int mk, .int wn, .int cnt])), (ae, .inr (0, [.ref at_, .int (nI k1)])), (at_, .inl (cyI, 13500, .inl w1)), (rx, .inl (cyI, 32, .inl F)), (ry, .inl (cyI, 32, .inl g1))] H → va_S (zA [ax, ae, at_, rx, ry]) s.heap H locs → ∀ ls : Array Slot, lv_has ls 12 [(7, .int (nI i)), (5, .long sv), (0, .ref ax), (1, .ref rx), (2, .ref ry), (3, .int (nI sd)), (4, .int (nI k))] → W p l e (headSpec wsL_ahead ({ frames := 50, cells := 0, slots := 0, locals := 1100 })).room s m ([.ref ax, .ref rx, .ref ry, .int (nI sd), .int (nI k)] : List Value).toArray below meth c H locs 0 0 Q (F0 m 6 ls []) := by
    intro n9
    induction n9 with
    | zero => intro i sv k1 w1 g1 hi2 hsv hk3 ht3 hm9; exact absurd hm9 (Nat.not_lt_zero _)
    | succ n9 ih6 =>
      intro i sv k1 w1 g1 hi2 hsv hk3 ht3 hm9 H locs hP hS ls hl
      refine lv_iload hx hb dL_ahead_6 (lv_at hl 0 rfl) ?_
      refine lv_iconst (v := 5) hx hb dL_ahead_8 (by decide) ?_
      refine lv_icmp_ge (tgt := 211) hx hb dL_ahead_9 (by decide) (fun c_9 => ?_) (fun c_9 => ?_)
      · skip
        have c_9 : 5 ≤ i := (nI_leI (a := 5) (b := i) (by omega) (by omega)).mp c_9
        refine lv_lload hx hb dL_ahead_211 (lv_at hl 1 rfl) ?_
        refine lv_ldc2 (v := 16) hx hb hown (hts (.constantLong RL 58 (16)) (List.mem_of_getElem? (i := 2) rfl)) dL_ahead_213 ?_
        refine lv_ldiv hx hb dL_ahead_216 (by decide) ?_
        refine zz_l (y := lN (zsm (zBT (zV k 0) own oth) 5 / 16)) (by rw [hsv, show i = 5 by omega]; exact zdiv16 (zsm_le hfl 5 (by omega))) ?_
        refine lv_l2i (v := (lN (zsm (zBT (zV k 0) own oth) 5 / 16) : Int64).toInt32) hx hb dL_ahead_217 rfl ?_
        refine zz_i (y := nI (zsm (zBT (zV k 0) own oth) 5 / 16)) (lN_i _) ?_
        subst hQe
        exact W.iret (v := nI (zsm (zBT (zV k 0) own oth) 5 / 16)) hx hb hr (fun t ht hW => ⟨⟨_, (k1, w1, g1), rfl, ⟨rfl, ht3, hk3⟩, zh ht hP⟩, hS.F ht⟩) hS.2.2 dL_ahead_218
      · skip
        have c_9 : ¬ 5 ≤ i := fun h9 => c_9 ((nI_leI (a := 5) (b := i) (by omega) (by omega)).mpr h9)
        refine lv_iconst (v := -1) hx hb dL_ahead_12 (by decide) ?_
        refine lv_istore (lv' := [(8, .int (-1)), (7, .int (nI i)), (5, .long sv), (0, .ref ax), (1, .ref rx), (2, .ref ry), (3, .int (nI sd)), (4, .int (nI k))]) hx hb dL_ahead_13 hl (by decide) rfl (fun ls hl => ?_)
        refine lv_iconst (v := 0) hx hb dL_ahead_15 (by decide) ?_
        refine lv_istore (lv' := [(9, .int 0), (8, .int (-1)), (7, .int (nI i)), (5, .long sv), (0, .ref ax), (1, .ref rx), (2, .ref ry), (3, .int (nI sd)), (4, .int (nI k))]) hx hb dL_ahead_16 hl (by decide) rfl (fun ls hl => ?_)
        have li : ∀ (n9 : Nat) (j : Nat) (bv : Int32) (k2 : Nat) (w2 : Nat → Int32) (g2 : Nat → Int32), j ≤ 15 → zBI (fun fr => zBM (zV k 0) own oth fr i) own oth i j bv → k2 ≤ 60 → zTb k2 w2 → 15 - j < n9 → ∀ (H : Heap) (locs : List Loc), va_P (dC, dI) vwCl [(ax, .inr (2, [.ref a0, .ref a1, .ref ae, .ref aw, .int pI, .int tI, .int mk, .int wn, .int cnt])), (ae, .inr (0, [.ref at_, .int (nI k2)])), (at_, .inl (cyI, 13500, .inl w2)), (rx, .inl (cyI, 32, .inl F)), (ry, .inl (cyI, 32, .inl g2))] H → va_S (zA [ax, ae, at_, rx, ry]) s.heap H locs → ∀ ls : Array Slot, lv_has ls 12 [(9, .int (nI j)), (8, .int bv), (7, .int (nI i)), (5, .long sv), (0, .ref ax), (1, .ref rx), (2, .ref ry), (3, .int (nI sd)), (4, .int (nI k))] → W p l e (headSpec wsL_ahead ({ frames := 50, cells := 0, slots := 0, locals := 1100 })).room s m ([.ref ax, .ref rx, .ref ry, .int (nI sd), .int (nI k)] : List Value).toArray below meth c H locs 0 0 Q (F0 m 18 ls []) := by
          intro n9
          induction n9 with
          | zero => intro j bv k2 w2 g2 hj2 hbv hk4 ht4 hm9; exact absurd hm9 (Nat.not_lt_zero _)
          | succ n9 ih18 =>
            intro j bv k2 w2 g2 hj2 hbv hk4 ht4 hm9 H locs hP hS ls hl
            refine lv_iload hx hb dL_ahead_18 (lv_at hl 0 rfl) ?_
            refine lv_bipush (v := 15) hx hb dL_ahead_20 (by decide) ?_
            refine lv_icmp_ge (tgt := 146) hx hb dL_ahead_22 (by decide) (fun c_22 => ?_) (fun c_22 => ?_)
            · skip
              have c_22 : 15 ≤ j := (nI_leI (a := 15) (b := j) (by omega) (by omega)).mp c_22
              obtain rfl : j = 15 := by omega
              rcases hbv with ⟨hh, -, rfl⟩ | ⟨hh, rfl⟩
              · skip
                refine lv_iload hx hb dL_ahead_146 (lv_at hl 1 rfl) ?_
                refine lv_if_ge (tgt := 167) hx hb dL_ahead_148 (by decide) (fun c9 => absurd c9 (by decide)) (fun _ => ?_)
                refine lv_ldc (v := 1000000000) hx hb hown (hts (.constant RL 53 (1000000000)) (List.mem_of_getElem? (i := 1) rfl)) dL_ahead_151 ?_
                refine lv_aload_n hx hb dL_ahead_153 rfl (lv_at hl 4 rfl) ?_
                refine lv_aload_n hx hb dL_ahead_154 rfl (lv_at hl 5 rfl) ?_
                refine lv_iconst (v := 1) hx hb dL_ahead_155 (by decide) ?_
                refine lv_iload_n hx hb dL_ahead_156 rfl (lv_at hl 7 rfl) ?_
                refine lv_isub hx hb dL_ahead_157 ?_
                refine zz_i (y := nI (1 - sd)) (pk_sub (a := 1) (b := sd) (by omega)) ?_
                refine lv_iload hx hb dL_ahead_158 (lv_at hl 8 rfl) ?_
                refine zrw_i (w1 := fun u : Nat × (Nat → Int32) => [(ax, .inr (2, [.ref a0, .ref a1, .ref ae, .ref aw, .int pI, .int tI, .int mk, .int wn, .int cnt])), (ae, .inr (0, [.ref at_, .int (nI u.1)])), (at_, .inl (cyI, 13500, .inl u.2)), (rx, .inl (cyI, 32, .inl F))]) (al := [ax, ae, at_, rx]) (va_runS (As := [.ref ax, .ref rx, .int (nI (1 - sd)), .int (nI k)]) (rest := [.int 1000000000]) ⟨hx, hb, hml, hown, hts⟩ (c_L_plain l dC dI cyI cyJ tb ax a0 a1 ae aw at_ rx pI tI mk wn cnt w2 F k k2 (1 - sd) oth own hk1 (by omega) (hr9.sw hsd) hQ hO hg.sw hk4 ht4 (z_nd hDD.1 [0, 1, 2, 3] (by decide) rfl)) (va_cwS 4 hts gL_ahead_L_plain rfl rfl rfl (by decide +kernel) ⟨(show 40 + 1 ≤ 50 by omega), (show 8 + (7 + 11) + 900 ≤ 1100 by omega)⟩) (zPc_S zB_X hP hK [0, 1, 2, 3] rfl (zX_at hX hS (zA_pl (al := [ax, ae, at_, rx, ry]) (bl := [ax, ae, at_, rx]) [0, 1, 2, 3] rfl))) rfl rfl hl.1 rfl (lv_room (Nat.le_of_ble_eq_true rfl)) dL_ahead_160 ⟨Nat.zero_le _, Nat.zero_le _⟩) hP hDD hS [0, 1, 2, 3] rfl (fun _ => rfl) (fun r_160 u_160 H locs hw_160 hP hS => ?_)
                have hP : va_P (dC, dI) vwCl [(ax, .inr (2, [.ref a0, .ref a1, .ref ae, .ref aw, .int pI, .int tI, .int mk, .int wn, .int cnt])), (ae, .inr (0, [.ref at_, .int (nI u_160.1)])), (at_, .inl (cyI, 13500, .inl u_160.2)), (rx, .inl (cyI, 32, .inl F)), (ry, .inl (cyI, 32, .inl g2))] H := hP
                refine zz_i (y := nI (zLf k oth own)) hw_160.1 ?_
                refine lv_isub hx hb dL_ahead_163 ?_
                refine zz_i (y := nI (1000000000 - (zLf k oth own))) (pk_sub (a := 1000000000) (b := zLf k oth own) (zLf_le _ _ _)) ?_
                refine lv_goto (tgt := 169) hx hb dL_ahead_164 (by decide) ?_
                refine zz_i (y := nI ((zBT (zV k 0) own oth) i)) (by rw [zBT, if_neg (by rw [hh]; decide)] <;> rfl) ?_
                refine lv_istore (lv' := [(8, .int (nI ((zBT (zV k 0) own oth) i))), (9, .int (nI 15)), (7, .int (nI i)), (5, .long sv), (0, .ref ax), (1, .ref rx), (2, .ref ry), (3, .int (nI sd)), (4, .int (nI k))]) hx hb dL_ahead_169 hl (by decide) rfl (fun ls hl => ?_)
                refine lv_lload hx hb dL_ahead_171 (lv_at hl 3 rfl) ?_
                refine lv_iload hx hb dL_ahead_173 (lv_at hl 0 rfl) ?_
                refine lv_i2l (v := (nI ((zBT (zV k 0) own oth) i) : Int32).toInt64) hx hb dL_ahead_175 rfl ?_
                refine zz_l (y := lN ((zBT (zV k 0) own oth) i)) (nI_lw (hfl i (by omega))) ?_
                refine lv_iload hx hb dL_ahead_176 (lv_at hl 2 rfl) ?_
                refine lv_iconst (v := 2) hx hb dL_ahead_178 (by decide) ?_
                refine lv_icmp_ne (tgt := 187) hx hb dL_ahead_179 (by decide) (fun c_179 => ?_) (fun c_179 => ?_)
                · skip
                  have c_179 : ¬ i = 2 := fun h9 => c_179 ((nI_eq (a := i) (b := 2) (by omega) (by omega)).mpr h9)
                  refine lv_iload hx hb dL_ahead_187 (lv_at hl 2 rfl) ?_
                  refine lv_iconst (v := 2) hx hb dL_ahead_189 (by decide) ?_
                  refine lv_irem hx hb dL_ahead_190 (by decide) ?_
                  refine zz_i (y := nI (i % 2)) (pk_rem (a := i) (d := 2) (by omega) (by decide) (by decide)) ?_
                  refine lv_iconst (v := 1) hx hb dL_ahead_191 (by decide) ?_
                  refine lv_icmp_ne (tgt := 199) hx hb dL_ahead_192 (by decide) (fun c_192 => ?_) (fun c_192 => ?_)
                  · skip
                    have c_192 : ¬ (i % 2) = 1 := fun h9 => c_192 ((nI_eq (a := i % 2) (b := 1) (by omega) (by omega)).mpr h9)
                    refine lv_iconst (v := 1) hx hb dL_ahead_199 (by decide) ?_
                    refine zz_i (y := nI (ztm i)) (by rcases (show i = 0 ∨ i = 4 by omega) with h | h <;> rw [h] <;> decide +kernel) ?_
                    refine lv_i2l (v := (nI (ztm i) : Int32).toInt64) hx hb dL_ahead_200 rfl ?_
                    refine zz_l (y := lN (ztm i)) (ztm_l i) ?_
                    refine lv_lmul hx hb dL_ahead_201 ?_
                    refine lv_ladd hx hb dL_ahead_202 ?_
                    refine zz_l (y := lN (zsm (zBT (zV k 0) own oth) (i + 1))) (by rw [hsv, Int64.mul_comm]; exact zsm_s (zBT (zV k 0) own oth) i) ?_
                    refine lv_lstore (lv' := [(5, .long (lN (zsm (zBT (zV k 0) own oth) (i + 1)))), (8, .int (nI ((zBT (zV k 0) own oth) i))), (9, .int (nI 15)), (7, .int (nI i)), (0, .ref ax), (1, .ref rx), (2, .ref ry), (3, .int (nI sd)), (4, .int (nI k))]) hx hb dL_ahead_203 hl (by decide) rfl (fun ls hl => ?_)
                    refine lv_iinc (v := nI (i + 1)) (lv' := [(7, .int (nI (i + 1))), (5, .long (lN (zsm (zBT (zV k 0) own oth) (i + 1)))), (8, .int (nI ((zBT (zV k 0) own oth) i))), (9, .int (nI 15)), (0, .ref ax), (1, .ref rx), (2, .ref ry), (3, .int (nI sd)), (4, .int (nI k))]) hx hb dL_ahead_205 hl (k := 3) rfl (nI_1 i) (by decide) rfl (fun ls hl => ?_)
                    refine lv_goto (tgt := 6) hx hb dL_ahead_208 (by decide) ?_
                    exact ih6 (i + 1) _ _ _ _ (by omega) rfl hw_160.2.2 hw_160.2.1 (by omega) _ _ hP hS _ (lv_sub hl [0, 1, 4, 5, 6, 7, 8] rfl)
                  · skip
                    have c_192 : (i % 2) = 1 := (nI_eq (a := i % 2) (b := 1) (by omega) (by omega)).mp c_192
                    refine lv_iconst (v := 4) hx hb dL_ahead_195 (by decide) ?_
                    refine zz_i (y := nI (ztm i)) (by rcases (show i = 1 ∨ i = 3 by omega) with h | h <;> rw [h] <;> decide +kernel) ?_
                    refine lv_goto (tgt := 200) hx hb dL_ahead_196 (by decide) ?_
                    refine lv_i2l (v := (nI (ztm i) : Int32).toInt64) hx hb dL_ahead_200 rfl ?_
                    refine zz_l (y := lN (ztm i)) (ztm_l i) ?_
                    refine lv_lmul hx hb dL_ahead_201 ?_
                    refine lv_ladd hx hb dL_ahead_202 ?_
                    refine zz_l (y := lN (zsm (zBT (zV k 0) own oth) (i + 1))) (by rw [hsv, Int64.mul_comm]; exact zsm_s (zBT (zV k 0) own oth) i) ?_
                    refine lv_lstore (lv' := [(5, .long (lN (zsm (zBT (zV k 0) own oth) (i + 1)))), (8, .int (nI ((zBT (zV k 0) own oth) i))), (9, .int (nI 15)), (7, .int (nI i)), (0, .ref ax), (1, .ref rx), (2, .ref ry), (3, .int (nI sd)), (4, .int (nI k))]) hx hb dL_ahead_203 hl (by decide) rfl (fun ls hl => ?_)
                    refine lv_iinc (v := nI (i + 1)) (lv' := [(7, .int (nI (i + 1))), (5, .long (lN (zsm (zBT (zV k 0) own oth) (i + 1)))), (8, .int (nI ((zBT (zV k 0) own oth) i))), (9, .int (nI 15)), (0, .ref ax), (1, .ref rx), (2, .ref ry), (3, .int (nI sd)), (4, .int (nI k))]) hx hb dL_ahead_205 hl (k := 3) rfl (nI_1 i) (by decide) rfl (fun ls hl => ?_)
                    refine lv_goto (tgt := 6) hx hb dL_ahead_208 (by decide) ?_
                    exact ih6 (i + 1) _ _ _ _ (by omega) rfl hw_160.2.2 hw_160.2.1 (by omega) _ _ hP hS _ (lv_sub hl [0, 1, 4, 5, 6, 7, 8] rfl)
                · skip
                  have c_179 : i = 2 := (nI_eq (a := i) (b := 2) (by omega) (by omega)).mp c_179
                  refine lv_bipush (v := 6) hx hb dL_ahead_182 (by decide) ?_
                  refine zz_i (y := nI (ztm i)) (by rw [show i = 2 by omega]; decide +kernel) ?_
                  refine lv_goto (tgt := 200) hx hb dL_ahead_184 (by decide) ?_
                  refine lv_i2l (v := (nI (ztm i) : Int32).toInt64) hx hb dL_ahead_200 rfl ?_
                  refine zz_l (y := lN (ztm i)) (ztm_l i) ?_
                  refine lv_lmul hx hb dL_ahead_201 ?_
                  refine lv_ladd hx hb dL_ahead_202 ?_
                  refine zz_l (y := lN (zsm (zBT (zV k 0) own oth) (i + 1))) (by rw [hsv, Int64.mul_comm]; exact zsm_s (zBT (zV k 0) own oth) i) ?_
                  refine lv_lstore (lv' := [(5, .long (lN (zsm (zBT (zV k 0) own oth) (i + 1)))), (8, .int (nI ((zBT (zV k 0) own oth) i))), (9, .int (nI 15)), (7, .int (nI i)), (0, .ref ax), (1, .ref rx), (2, .ref ry), (3, .int (nI sd)), (4, .int (nI k))]) hx hb dL_ahead_203 hl (by decide) rfl (fun ls hl => ?_)
                  refine lv_iinc (v := nI (i + 1)) (lv' := [(7, .int (nI (i + 1))), (5, .long (lN (zsm (zBT (zV k 0) own oth) (i + 1)))), (8, .int (nI ((zBT (zV k 0) own oth) i))), (9, .int (nI 15)), (0, .ref ax), (1, .ref rx), (2, .ref ry), (3, .int (nI sd)), (4, .int (nI k))]) hx hb dL_ahead_205 hl (k := 3) rfl (nI_1 i) (by decide) rfl (fun ls hl => ?_)
                  refine lv_goto (tgt := 6) hx hb dL_ahead_208 (by decide) ?_
                  exact ih6 (i + 1) _ _ _ _ (by omega) rfl hw_160.2.2 hw_160.2.1 (by omega) _ _ hP hS _ (lv_sub hl [0, 1, 4, 5, 6, 7, 8] rfl)
              · skip
                refine lv_iload hx hb dL_ahead_146 (lv_at hl 1 rfl) ?_
                refine lv_if_ge (tgt := 167) hx hb dL_ahead_148 (by decide) (fun c_148 => ?_) (fun c_148 => ?_)
                · skip
                  refine lv_iload hx hb dL_ahead_167 (lv_at hl 1 rfl) ?_
                  refine zz_i (y := nI ((zBT (zV k 0) own oth) i)) (by rw [zBT, if_pos hh]) ?_
                  refine lv_istore (lv' := [(8, .int (nI ((zBT (zV k 0) own oth) i))), (9, .int (nI 15)), (7, .int (nI i)), (5, .long sv), (0, .ref ax), (1, .ref rx), (2, .ref ry), (3, .int (nI sd)), (4, .int (nI k))]) hx hb dL_ahead_169 hl (by decide) rfl (fun ls hl => ?_)
                  refine lv_lload hx hb dL_ahead_171 (lv_at hl 3 rfl) ?_
                  refine lv_iload hx hb dL_ahead_173 (lv_at hl 0 rfl) ?_
                  refine lv_i2l (v := (nI ((zBT (zV k 0) own oth) i) : Int32).toInt64) hx hb dL_ahead_175 rfl ?_
                  refine zz_l (y := lN ((zBT (zV k 0) own oth) i)) (nI_lw (hfl i (by omega))) ?_
                  refine lv_iload hx hb dL_ahead_176 (lv_at hl 2 rfl) ?_
                  refine lv_iconst (v := 2) hx hb dL_ahead_178 (by decide) ?_
                  refine lv_icmp_ne (tgt := 187) hx hb dL_ahead_179 (by decide) (fun c_179 => ?_) (fun c_179 => ?_)
                  · skip
                    have c_179 : ¬ i = 2 := fun h9 => c_179 ((nI_eq (a := i) (b := 2) (by omega) (by omega)).mpr h9)
                    refine lv_iload hx hb dL_ahead_187 (lv_at hl 2 rfl) ?_
                    refine lv_iconst (v := 2) hx hb dL_ahead_189 (by decide) ?_
                    refine lv_irem hx hb dL_ahead_190 (by decide) ?_
                    refine zz_i (y := nI (i % 2)) (pk_rem (a := i) (d := 2) (by omega) (by decide) (by decide)) ?_
                    refine lv_iconst (v := 1) hx hb dL_ahead_191 (by decide) ?_
                    refine lv_icmp_ne (tgt := 199) hx hb dL_ahead_192 (by decide) (fun c_192 => ?_) (fun c_192 => ?_)
                    · skip
                      have c_192 : ¬ (i % 2) = 1 := fun h9 => c_192 ((nI_eq (a := i % 2) (b := 1) (by omega) (by omega)).mpr h9)
                      refine lv_iconst (v := 1) hx hb dL_ahead_199 (by decide) ?_
                      refine zz_i (y := nI (ztm i)) (by rcases (show i = 0 ∨ i = 4 by omega) with h | h <;> rw [h] <;> decide +kernel) ?_
                      refine lv_i2l (v := (nI (ztm i) : Int32).toInt64) hx hb dL_ahead_200 rfl ?_
                      refine zz_l (y := lN (ztm i)) (ztm_l i) ?_
                      refine lv_lmul hx hb dL_ahead_201 ?_
                      refine lv_ladd hx hb dL_ahead_202 ?_
                      refine zz_l (y := lN (zsm (zBT (zV k 0) own oth) (i + 1))) (by rw [hsv, Int64.mul_comm]; exact zsm_s (zBT (zV k 0) own oth) i) ?_
                      refine lv_lstore (lv' := [(5, .long (lN (zsm (zBT (zV k 0) own oth) (i + 1)))), (8, .int (nI ((zBT (zV k 0) own oth) i))), (9, .int (nI 15)), (7, .int (nI i)), (0, .ref ax), (1, .ref rx), (2, .ref ry), (3, .int (nI sd)), (4, .int (nI k))]) hx hb dL_ahead_203 hl (by decide) rfl (fun ls hl => ?_)
                      refine lv_iinc (v := nI (i + 1)) (lv' := [(7, .int (nI (i + 1))), (5, .long (lN (zsm (zBT (zV k 0) own oth) (i + 1)))), (8, .int (nI ((zBT (zV k 0) own oth) i))), (9, .int (nI 15)), (0, .ref ax), (1, .ref rx), (2, .ref ry), (3, .int (nI sd)), (4, .int (nI k))]) hx hb dL_ahead_205 hl (k := 3) rfl (nI_1 i) (by decide) rfl (fun ls hl => ?_)
                      refine lv_goto (tgt := 6) hx hb dL_ahead_208 (by decide) ?_
                      exact ih6 (i + 1) _ _ _ _ (by omega) rfl hk4 ht4 (by omega) _ _ hP hS _ (lv_sub hl [0, 1, 4, 5, 6, 7, 8] rfl)
                    · skip
                      have c_192 : (i % 2) = 1 := (nI_eq (a := i % 2) (b := 1) (by omega) (by omega)).mp c_192
                      refine lv_iconst (v := 4) hx hb dL_ahead_195 (by decide) ?_
                      refine zz_i (y := nI (ztm i)) (by rcases (show i = 1 ∨ i = 3 by omega) with h | h <;> rw [h] <;> decide +kernel) ?_
                      refine lv_goto (tgt := 200) hx hb dL_ahead_196 (by decide) ?_
                      refine lv_i2l (v := (nI (ztm i) : Int32).toInt64) hx hb dL_ahead_200 rfl ?_
                      refine zz_l (y := lN (ztm i)) (ztm_l i) ?_
                      refine lv_lmul hx hb dL_ahead_201 ?_
                      refine lv_ladd hx hb dL_ahead_202 ?_
                      refine zz_l (y := lN (zsm (zBT (zV k 0) own oth) (i + 1))) (by rw [hsv, Int64.mul_comm]; exact zsm_s (zBT (zV k 0) own oth) i) ?_
                      refine lv_lstore (lv' := [(5, .long (lN (zsm (zBT (zV k 0) own oth) (i + 1)))), (8, .int (nI ((zBT (zV k 0) own oth) i))), (9, .int (nI 15)), (7, .int (nI i)), (0, .ref ax), (1, .ref rx), (2, .ref ry), (3, .int (nI sd)), (4, .int (nI k))]) hx hb dL_ahead_203 hl (by decide) rfl (fun ls hl => ?_)
                      refine lv_iinc (v := nI (i + 1)) (lv' := [(7, .int (nI (i + 1))), (5, .long (lN (zsm (zBT (zV k 0) own oth) (i + 1)))), (8, .int (nI ((zBT (zV k 0) own oth) i))), (9, .int (nI 15)), (0, .ref ax), (1, .ref rx), (2, .ref ry), (3, .int (nI sd)), (4, .int (nI k))]) hx hb dL_ahead_205 hl (k := 3) rfl (nI_1 i) (by decide) rfl (fun ls hl => ?_)
                      refine lv_goto (tgt := 6) hx hb dL_ahead_208 (by decide) ?_
                      exact ih6 (i + 1) _ _ _ _ (by omega) rfl hk4 ht4 (by omega) _ _ hP hS _ (lv_sub hl [0, 1, 4, 5, 6, 7, 8] rfl)
                  · skip
                    have c_179 : i = 2 := (nI_eq (a := i) (b := 2) (by omega) (by omega)).mp c_179
                    refine lv_bipush (v := 6) hx hb dL_ahead_182 (by decide) ?_
                    refine zz_i (y := nI (ztm i)) (by rw [show i = 2 by omega]; decide +kernel) ?_
                    refine lv_goto (tgt := 200) hx hb dL_ahead_184 (by decide) ?_
                    refine lv_i2l (v := (nI (ztm i) : Int32).toInt64) hx hb dL_ahead_200 rfl ?_
                    refine zz_l (y := lN (ztm i)) (ztm_l i) ?_
                    refine lv_lmul hx hb dL_ahead_201 ?_
                    refine lv_ladd hx hb dL_ahead_202 ?_
                    refine zz_l (y := lN (zsm (zBT (zV k 0) own oth) (i + 1))) (by rw [hsv, Int64.mul_comm]; exact zsm_s (zBT (zV k 0) own oth) i) ?_
                    refine lv_lstore (lv' := [(5, .long (lN (zsm (zBT (zV k 0) own oth) (i + 1)))), (8, .int (nI ((zBT (zV k 0) own oth) i))), (9, .int (nI 15)), (7, .int (nI i)), (0, .ref ax), (1, .ref rx), (2, .ref ry), (3, .int (nI sd)), (4, .int (nI k))]) hx hb dL_ahead_203 hl (by decide) rfl (fun ls hl => ?_)
                    refine lv_iinc (v := nI (i + 1)) (lv' := [(7, .int (nI (i + 1))), (5, .long (lN (zsm (zBT (zV k 0) own oth) (i + 1)))), (8, .int (nI ((zBT (zV k 0) own oth) i))), (9, .int (nI 15)), (0, .ref ax), (1, .ref rx), (2, .ref ry), (3, .int (nI sd)), (4, .int (nI k))]) hx hb dL_ahead_205 hl (k := 3) rfl (nI_1 i) (by decide) rfl (fun ls hl => ?_)
                    refine lv_goto (tgt := 6) hx hb dL_ahead_208 (by decide) ?_
                    exact ih6 (i + 1) _ _ _ _ (by omega) rfl hk4 ht4 (by omega) _ _ hP hS _ (lv_sub hl [0, 1, 4, 5, 6, 7, 8] rfl)
                · skip
                  exact absurd (zlo (Nat.lt_of_le_of_lt (zBst_le (g := fun fr => zBM (zV k 0) own oth fr i) (fun a => zBM_le (zV_le k 0) own oth a i) own oth i 15) (by decide))) c_148
            · skip
              have c_22 : ¬ 15 ≤ j := fun h9 => c_22 ((nI_leI (a := 15) (b := j) (by omega) (by omega)).mpr h9)
              refine lv_aload_n hx hb dL_ahead_25 rfl (lv_at hl 5 rfl) ?_
              refine lv_iload_n hx hb dL_ahead_26 rfl (lv_at hl 7 rfl) ?_
              refine lv_iload hx hb dL_ahead_27 (lv_at hl 0 rfl) ?_
              refine lv_iload hx hb dL_ahead_29 (lv_at hl 2 rfl) ?_
              refine zro_i (va_runS (As := [.ref rx, .int (nI sd), .int (nI j), .int (nI i)]) (rest := []) ⟨hx, hb, hml, hown, hts⟩ (c_L_can l dC dI cyI cyJ rx F sd own oth (by omega) hr9 j i (by omega) (by omega)) (va_cwS 4 hts gL_ahead_L_can rfl rfl rfl (by decide +kernel) ⟨(show 0 + 1 ≤ 50 by omega), (show 8 + (6 + 11) + 0 ≤ 1100 by omega)⟩) (zPc_S zB_T hP hK [3] rfl (fun _ _ _ => trivial)) rfl rfl hl.1 rfl (lv_room (Nat.le_of_ble_eq_true rfl)) dL_ahead_31 ⟨Nat.zero_le _, Nat.zero_le _⟩) hP hS (fun H locs hP hS => ?_)
              refine lv_if_eq (tgt := 140) hx hb dL_ahead_34 (by decide) (fun c_34 => ?_) (fun c_34 => ?_)
              · skip
                have c_34 := bI_0.mp c_34
                refine lv_iinc (v := nI (j + 1)) (lv' := [(9, .int (nI (j + 1))), (8, .int bv), (7, .int (nI i)), (5, .long sv), (0, .ref ax), (1, .ref rx), (2, .ref ry), (3, .int (nI sd)), (4, .int (nI k))]) hx hb dL_ahead_140 hl (k := 0) rfl (nI_1 j) (by decide) rfl (fun ls hl => ?_)
                refine lv_goto (tgt := 18) hx hb dL_ahead_143 (by decide) ?_
                exact ih18 (j + 1) _ _ _ _ (by omega) (zBI_n hbv c_34) hk4 ht4 (by omega) _ _ hP hS _ (lv_sub hl [0, 1, 2, 3, 4, 5, 6, 7, 8] rfl)
              · skip
                have c_34 := bI_1.mp c_34
                refine lv_aload_n hx hb dL_ahead_37 rfl (lv_at hl 5 rfl) ?_
                refine lv_aload_n hx hb dL_ahead_38 rfl (lv_at hl 6 rfl) ?_
                refine zrw_v (w1 := fun u : Nat → Int32 => [(rx, .inl (cyI, 32, .inl F)), (ry, .inl (cyI, 32, .inl u))]) (al := [rx, ry]) (va_runS (As := [.ref rx, .ref ry]) (rest := []) ⟨hx, hb, hml, hown, hts⟩ (c_L_copy l dC dI cyI cyJ rx ry F g2 (z_nd hDD.1 [3, 4] (by decide) rfl)) (va_cwS 2 hts gL_ahead_L_copy rfl rfl rfl (by decide +kernel) ⟨(show 0 + 1 ≤ 50 by omega), (show 8 + (3 + 11) + 0 ≤ 1100 by omega)⟩) (zPc_S zB_T hP hK [3, 4] rfl (fun _ _ _ => trivial)) rfl rfl hl.1 rfl (lv_room (Nat.le_of_ble_eq_true rfl)) dL_ahead_39 ⟨Nat.zero_le _, Nat.zero_le _⟩) hP hDD hS [3, 4] rfl (fun _ => rfl) (fun u_39 H locs hw_39 hP hS => ?_)
                have hP : va_P (dC, dI) vwCl [(ax, .inr (2, [.ref a0, .ref a1, .ref ae, .ref aw, .int pI, .int tI, .int mk, .int wn, .int cnt])), (ae, .inr (0, [.ref at_, .int (nI k2)])), (at_, .inl (cyI, 13500, .inl w2)), (rx, .inl (cyI, 32, .inl F)), (ry, .inl (cyI, 32, .inl u_39))] H := hP
                refine lv_aload_n hx hb dL_ahead_42 rfl (lv_at hl 6 rfl) ?_
                refine lv_iload_n hx hb dL_ahead_43 rfl (lv_at hl 7 rfl) ?_
                refine lv_iload hx hb dL_ahead_44 (lv_at hl 0 rfl) ?_
                refine lv_iload hx hb dL_ahead_46 (lv_at hl 2 rfl) ?_
                refine zrw_v (w1 := fun u : Nat → Int32 => [(ry, .inl (cyI, 32, .inl u))]) (al := [ry]) (va_runS (As := [.ref ry, .int (nI sd), .int (nI j), .int (nI i)]) (rest := []) ⟨hx, hb, hml, hown, hts⟩ (c_L_shift l dC dI cyI cyJ ry u_39 k sd own oth j i (by omega) (zRow_cg hsd hr9 (fun q _ hq => hw_39 q (by omega))) hO hQ c_34 (z_nd hDD.1 [4] (by decide) rfl)) (va_cwS 4 hts gL_ahead_L_shift rfl rfl rfl (by decide +kernel) ⟨(show 1 + 1 ≤ 50 by omega), (show 8 + (5 + 11) + 22 ≤ 1100 by omega)⟩) (zPc_S zB_T hP hK [4] rfl (fun _ _ _ => trivial)) rfl rfl hl.1 rfl (lv_room (Nat.le_of_ble_eq_true rfl)) dL_ahead_48 ⟨Nat.zero_le _, Nat.zero_le _⟩) hP hDD hS [4] rfl (fun _ => rfl) (fun u_48 H locs hw_48 hP hS => ?_)
                have hP : va_P (dC, dI) vwCl [(ax, .inr (2, [.ref a0, .ref a1, .ref ae, .ref aw, .int pI, .int tI, .int mk, .int wn, .int cnt])), (ae, .inr (0, [.ref at_, .int (nI k2)])), (at_, .inl (cyI, 13500, .inl w2)), (rx, .inl (cyI, 32, .inl F)), (ry, .inl (cyI, 32, .inl u_48))] H := hP
                obtain ⟨hm0, hd0, hto⟩ := zcm_spec c_34
                have hO2 : zok k (zsh own j (j + i)) := zok_sh hO hd0 (by omega) (by omega) (by omega)
                have hQ2 : zok k (if ztk oth (j + i) = true then zsh oth (j + i) 0 else oth) := zok_tk hQ hto
                have hg2 : zgd (zsh own j (j + i)) (if ztk oth (j + i) = true then zsh oth (j + i) 0 else oth) := zgd_mv hO hQ hg c_34
                have hg6 := dg_lt (zsh own j (j + i)) 15
                have hg7 := zLf_le k
                refine lv_iload_n hx hb dL_ahead_51 rfl (lv_at hl 7 rfl) ?_
                refine lv_iload hx hb dL_ahead_52 (lv_at hl 0 rfl) ?_
                refine lv_iload hx hb dL_ahead_54 (lv_at hl 2 rfl) ?_
                refine lv_iadd hx hb dL_ahead_56 ?_
                refine zz_i (y := nI (j + i)) (nI_add j i) ?_
                refine zro_i (va_runS (As := [.int (nI sd), .int (nI (j + i))]) (rest := []) ⟨hx, hb, hml, hown, hts⟩ (c_L_after l sd (j + i) (by omega) (by omega)) (va_cwS 2 hts gL_ahead_L_after rfl rfl rfl (by decide +kernel) ⟨(show 0 + 1 ≤ 50 by omega), (show 8 + (2 + 11) + 0 ≤ 1100 by omega)⟩) zPu rfl rfl hl.1 rfl (lv_room (Nat.le_of_ble_eq_true rfl)) dL_ahead_57 ⟨Nat.zero_le _, Nat.zero_le _⟩) hP hS (fun H locs hP hS => ?_)
                by_cases hz9 : zros (j + i) = true
                · skip
                  refine zz_i (y := nI sd) (by rw [if_pos hz9]) ?_
                  refine lv_istore (lv' := [(10, .int (nI sd)), (9, .int (nI j)), (8, .int bv), (7, .int (nI i)), (5, .long sv), (0, .ref ax), (1, .ref rx), (2, .ref ry), (3, .int (nI sd)), (4, .int (nI k))]) hx hb dL_ahead_60 hl (by decide) rfl (fun ls hl => ?_)
                  refine lv_aload_n hx hb dL_ahead_62 rfl (lv_at hl 7 rfl) ?_
                  refine lv_bipush (v := 16) hx hb dL_ahead_63 (by decide) ?_
                  refine lv_iload_n hx hb dL_ahead_65 rfl (lv_at hl 8 rfl) ?_
                  refine lv_imul hx hb dL_ahead_66 ?_
                  refine zz_i (y := nI (16 * sd)) (pk_mul 16 sd) ?_
                  refine lv_bipush (v := 15) hx hb dL_ahead_67 (by decide) ?_
                  refine lv_iadd hx hb dL_ahead_69 ?_
                  refine zz_i (y := nI (16 * sd + 15)) (nI_add (16 * sd) 15) ?_
                  refine zi_iald hx hb hK hP 4 0 rfl rfl (j := 16 * sd + 15) rfl (by omega) (by decide) dL_ahead_70 ?_
                  refine zz_i (y := nI (dg (zsh own j (j + i)) 15)) (zr1 hw_48 (by omega)) ?_
                  refine lv_iload hx hb dL_ahead_71 (lv_at hl 9 rfl) ?_
                  refine lv_icmp_ne (tgt := 81) hx hb dL_ahead_73 (by decide) (fun c_73 => ?_) (fun c_73 => ?_)
                  · skip
                    have c_73 : ¬ (dg (zsh own j (j + i)) 15) = k := fun h9 => c_73 ((nI_eq (a := dg (zsh own j (j + i)) 15) (b := k) (by omega) (by omega)).mpr h9)
                    refine lv_aload_n hx hb dL_ahead_81 rfl (lv_at hl 5 rfl) ?_
                    refine lv_aload_n hx hb dL_ahead_82 rfl (lv_at hl 7 rfl) ?_
                    refine lv_iload hx hb dL_ahead_83 (lv_at hl 0 rfl) ?_
                    refine lv_iload hx hb dL_ahead_85 (lv_at hl 9 rfl) ?_
                    refine zrw_i (w1 := fun u : Nat × (Nat → Int32) => [(ax, .inr (2, [.ref a0, .ref a1, .ref ae, .ref aw, .int pI, .int tI, .int mk, .int wn, .int cnt])), (ae, .inr (0, [.ref at_, .int (nI u.1)])), (at_, .inl (cyI, 13500, .inl u.2)), (ry, .inl (cyI, 32, .inl u_48))]) (al := [ax, ae, at_, ry]) (va_runS (As := [.ref ax, .ref ry, .int (nI sd), .int (nI k)]) (rest := []) ⟨hx, hb, hml, hown, hts⟩ (c_L_plain l dC dI cyI cyJ tb ax a0 a1 ae aw at_ ry pI tI mk wn cnt w2 u_48 k k2 sd (zsh own j (j + i)) (if ztk oth (j + i) = true then zsh oth (j + i) 0 else oth) hk1 (by omega) hw_48 hO2 hQ2 hg2 hk4 ht4 (z_nd hDD.1 [0, 1, 2, 4] (by decide) rfl)) (va_cwS 4 hts gL_ahead_L_plain rfl rfl rfl (by decide +kernel) ⟨(show 40 + 1 ≤ 50 by omega), (show 8 + (7 + 11) + 900 ≤ 1100 by omega)⟩) (zPc_S zB_X hP hK [0, 1, 2, 4] rfl (zX_at hX hS (zA_pl (al := [ax, ae, at_, rx, ry]) (bl := [ax, ae, at_, ry]) [0, 1, 2, 4] rfl))) rfl rfl hl.1 rfl (lv_room (Nat.le_of_ble_eq_true rfl)) dL_ahead_87 ⟨Nat.zero_le _, Nat.zero_le _⟩) hP hDD hS [0, 1, 2, 4] rfl (fun _ => rfl) (fun r_87 u_87 H locs hw_87 hP hS => ?_)
                    have hP : va_P (dC, dI) vwCl [(ax, .inr (2, [.ref a0, .ref a1, .ref ae, .ref aw, .int pI, .int tI, .int mk, .int wn, .int cnt])), (ae, .inr (0, [.ref at_, .int (nI u_87.1)])), (at_, .inl (cyI, 13500, .inl u_87.2)), (rx, .inl (cyI, 32, .inl F)), (ry, .inl (cyI, 32, .inl u_48))] H := hP
                    refine zz_i (y := nI (zLf k (zsh own j (j + i)) (if ztk oth (j + i) = true then zsh oth (j + i) 0 else oth))) hw_87.1 ?_
                    refine lv_istore (lv' := [(11, .int (nI (zLf k (zsh own j (j + i)) (if ztk oth (j + i) = true then zsh oth (j + i) 0 else oth)))), (10, .int (nI sd)), (9, .int (nI j)), (8, .int bv), (7, .int (nI i)), (5, .long sv), (0, .ref ax), (1, .ref rx), (2, .ref ry), (3, .int (nI sd)), (4, .int (nI k))]) hx hb dL_ahead_90 hl (by decide) rfl (fun ls hl => ?_)
                    refine lv_aload_n hx hb dL_ahead_92 rfl (lv_at hl 8 rfl) ?_
                    refine lv_bipush (v := 16) hx hb dL_ahead_93 (by decide) ?_
                    refine lv_iload_n hx hb dL_ahead_95 rfl (lv_at hl 9 rfl) ?_
                    refine lv_imul hx hb dL_ahead_96 ?_
                    refine zz_i (y := nI (16 * sd)) (pk_mul 16 sd) ?_
                    refine lv_bipush (v := 15) hx hb dL_ahead_97 (by decide) ?_
                    refine lv_iadd hx hb dL_ahead_99 ?_
                    refine zz_i (y := nI (16 * sd + 15)) (nI_add (16 * sd) 15) ?_
                    refine zi_iald hx hb hK hP 4 0 rfl rfl (j := 16 * sd + 15) rfl (by omega) (by decide) dL_ahead_100 ?_
                    refine zz_i (y := nI (dg (zsh own j (j + i)) 15)) (zr1 hw_48 (by omega)) ?_
                    refine lv_iload hx hb dL_ahead_101 (lv_at hl 10 rfl) ?_
                    refine lv_icmp_eq (tgt := 112) hx hb dL_ahead_103 (by decide) (fun c_103 => ?_) (fun c_103 => ?_)
                    · skip
                      have c_103 : (dg (zsh own j (j + i)) 15) = k := (nI_eq (a := dg (zsh own j (j + i)) 15) (b := k) (by omega) (by omega)).mp c_103
                      exact absurd c_103 c_73
                    · skip
                      have c_103 : ¬ (dg (zsh own j (j + i)) 15) = k := fun h9 => c_103 ((nI_eq (a := dg (zsh own j (j + i)) 15) (b := k) (by omega) (by omega)).mpr h9)
                      refine lv_iload hx hb dL_ahead_106 (lv_at hl 1 rfl) ?_
                      refine lv_iload_n hx hb dL_ahead_108 rfl (lv_at hl 9 rfl) ?_
                      refine lv_icmp_ne (tgt := 117) hx hb dL_ahead_109 (by decide) (fun c_109 => ?_) (fun c_109 => ?_)
                      · skip
                        have c_109 : ¬ sd = sd := fun h9 => c_109 ((nI_eq (a := sd) (b := sd) (by omega) (by omega)).mpr h9)
                        exact absurd rfl c_109
                      · skip
                        have c_109 : sd = sd := (nI_eq (a := sd) (b := sd) (by omega) (by omega)).mp c_109
                        refine lv_iload hx hb dL_ahead_112 (lv_at hl 0 rfl) ?_
                        refine lv_goto (tgt := 122) hx hb dL_ahead_114 (by decide) ?_
                        refine lv_istore (lv' := [(11, .int (nI (zLf k (zsh own j (j + i)) (if ztk oth (j + i) = true then zsh oth (j + i) 0 else oth)))), (10, .int (nI sd)), (9, .int (nI j)), (8, .int bv), (7, .int (nI i)), (5, .long sv), (0, .ref ax), (1, .ref rx), (2, .ref ry), (3, .int (nI sd)), (4, .int (nI k))]) hx hb dL_ahead_122 hl (by decide) rfl (fun ls hl => ?_)
                        have hbm : zBM (zV k 0) own oth j i = zLf k (zsh own j (j + i)) (if ztk oth (j + i) = true then zsh oth (j + i) 0 else oth) := zBM_r (zhome_n hO2 c_73) hz9
                        have hz : zBI (fun fr => zBM (zV k 0) own oth fr i) own oth i (j + 1) (if bv < nI (zBM (zV k 0) own oth j i) then nI (zBM (zV k 0) own oth j i) else bv) := zBI_y hbv (fun a => zBM_le (zV_le k 0) _ _ _ _) c_34
                        rw [hbm] at hz
                        refine lv_iload hx hb dL_ahead_124 (lv_at hl 0 rfl) ?_
                        refine lv_iload hx hb dL_ahead_126 (lv_at hl 3 rfl) ?_
                        refine lv_icmp_le (tgt := 136) hx hb dL_ahead_128 (by decide) (fun c_128 => ?_) (fun c_128 => ?_)
                        · skip
                          have hzz := hz
                          rw [if_neg (Int32.not_lt.mpr c_128)] at hzz
                          refine lv_iload hx hb dL_ahead_136 (lv_at hl 3 rfl) ?_
                          refine lv_istore (lv' := [(8, .int bv), (11, .int (nI (zLf k (zsh own j (j + i)) (if ztk oth (j + i) = true then zsh oth (j + i) 0 else oth)))), (10, .int (nI sd)), (9, .int (nI j)), (7, .int (nI i)), (5, .long sv), (0, .ref ax), (1, .ref rx), (2, .ref ry), (3, .int (nI sd)), (4, .int (nI k))]) hx hb dL_ahead_138 hl (by decide) rfl (fun ls hl => ?_)
                          refine lv_iinc (v := nI (j + 1)) (lv' := [(9, .int (nI (j + 1))), (8, .int bv), (11, .int (nI (zLf k (zsh own j (j + i)) (if ztk oth (j + i) = true then zsh oth (j + i) 0 else oth)))), (10, .int (nI sd)), (7, .int (nI i)), (5, .long sv), (0, .ref ax), (1, .ref rx), (2, .ref ry), (3, .int (nI sd)), (4, .int (nI k))]) hx hb dL_ahead_140 hl (k := 3) rfl (nI_1 j) (by decide) rfl (fun ls hl => ?_)
                          refine lv_goto (tgt := 18) hx hb dL_ahead_143 (by decide) ?_
                          exact ih18 (j + 1) _ _ _ _ (by omega) hzz hw_87.2.2 hw_87.2.1 (by omega) _ _ hP hS _ (lv_sub hl [0, 1, 4, 5, 6, 7, 8, 9, 10] rfl)
                        · skip
                          have hzz := hz
                          rw [if_pos (Int32.not_le.mp c_128)] at hzz
                          refine lv_iload hx hb dL_ahead_131 (lv_at hl 0 rfl) ?_
                          refine lv_goto (tgt := 138) hx hb dL_ahead_133 (by decide) ?_
                          refine lv_istore (lv' := [(8, .int (nI (zLf k (zsh own j (j + i)) (if ztk oth (j + i) = true then zsh oth (j + i) 0 else oth)))), (11, .int (nI (zLf k (zsh own j (j + i)) (if ztk oth (j + i) = true then zsh oth (j + i) 0 else oth)))), (10, .int (nI sd)), (9, .int (nI j)), (7, .int (nI i)), (5, .long sv), (0, .ref ax), (1, .ref rx), (2, .ref ry), (3, .int (nI sd)), (4, .int (nI k))]) hx hb dL_ahead_138 hl (by decide) rfl (fun ls hl => ?_)
                          refine lv_iinc (v := nI (j + 1)) (lv' := [(9, .int (nI (j + 1))), (8, .int (nI (zLf k (zsh own j (j + i)) (if ztk oth (j + i) = true then zsh oth (j + i) 0 else oth)))), (11, .int (nI (zLf k (zsh own j (j + i)) (if ztk oth (j + i) = true then zsh oth (j + i) 0 else oth)))), (10, .int (nI sd)), (7, .int (nI i)), (5, .long sv), (0, .ref ax), (1, .ref rx), (2, .ref ry), (3, .int (nI sd)), (4, .int (nI k))]) hx hb dL_ahead_140 hl (k := 3) rfl (nI_1 j) (by decide) rfl (fun ls hl => ?_)
                          refine lv_goto (tgt := 18) hx hb dL_ahead_143 (by decide) ?_
                          exact ih18 (j + 1) _ _ _ _ (by omega) hzz hw_87.2.2 hw_87.2.1 (by omega) _ _ hP hS _ (lv_sub hl [0, 1, 4, 5, 6, 7, 8, 9, 10] rfl)
                  · skip
                    have c_73 : (dg (zsh own j (j + i)) 15) = k := (nI_eq (a := dg (zsh own j (j + i)) 15) (b := k) (by omega) (by omega)).mp c_73
                    refine lv_ldc (v := 1000000000) hx hb hown (hts (.constant RL 53 (1000000000)) (List.mem_of_getElem? (i := 1) rfl)) dL_ahead_76 ?_
                    refine zz_i (y := nI 1000000000) rfl ?_
                    refine lv_goto (tgt := 90) hx hb dL_ahead_78 (by decide) ?_
                    refine lv_istore (lv' := [(11, .int (nI 1000000000)), (10, .int (nI sd)), (9, .int (nI j)), (8, .int bv), (7, .int (nI i)), (5, .long sv), (0, .ref ax), (1, .ref rx), (2, .ref ry), (3, .int (nI sd)), (4, .int (nI k))]) hx hb dL_ahead_90 hl (by decide) rfl (fun ls hl => ?_)
                    refine lv_aload_n hx hb dL_ahead_92 rfl (lv_at hl 8 rfl) ?_
                    refine lv_bipush (v := 16) hx hb dL_ahead_93 (by decide) ?_
                    refine lv_iload_n hx hb dL_ahead_95 rfl (lv_at hl 9 rfl) ?_
                    refine lv_imul hx hb dL_ahead_96 ?_
                    refine zz_i (y := nI (16 * sd)) (pk_mul 16 sd) ?_
                    refine lv_bipush (v := 15) hx hb dL_ahead_97 (by decide) ?_
                    refine lv_iadd hx hb dL_ahead_99 ?_
                    refine zz_i (y := nI (16 * sd + 15)) (nI_add (16 * sd) 15) ?_
                    refine zi_iald hx hb hK hP 4 0 rfl rfl (j := 16 * sd + 15) rfl (by omega) (by decide) dL_ahead_100 ?_
                    refine zz_i (y := nI (dg (zsh own j (j + i)) 15)) (zr1 hw_48 (by omega)) ?_
                    refine lv_iload hx hb dL_ahead_101 (lv_at hl 10 rfl) ?_
                    refine lv_icmp_eq (tgt := 112) hx hb dL_ahead_103 (by decide) (fun c_103 => ?_) (fun c_103 => ?_)
                    · skip
                      have c_103 : (dg (zsh own j (j + i)) 15) = k := (nI_eq (a := dg (zsh own j (j + i)) 15) (b := k) (by omega) (by omega)).mp c_103
                      refine lv_iload hx hb dL_ahead_112 (lv_at hl 0 rfl) ?_
                      refine lv_goto (tgt := 122) hx hb dL_ahead_114 (by decide) ?_
                      refine lv_istore (lv' := [(11, .int (nI 1000000000)), (10, .int (nI sd)), (9, .int (nI j)), (8, .int bv), (7, .int (nI i)), (5, .long sv), (0, .ref ax), (1, .ref rx), (2, .ref ry), (3, .int (nI sd)), (4, .int (nI k))]) hx hb dL_ahead_122 hl (by decide) rfl (fun ls hl => ?_)
                      have hbm : zBM (zV k 0) own oth j i = 1000000000 := zBM_h ((zhome_iff hO2).mpr c_73)
                      have hz : zBI (fun fr => zBM (zV k 0) own oth fr i) own oth i (j + 1) (if bv < nI (zBM (zV k 0) own oth j i) then nI (zBM (zV k 0) own oth j i) else bv) := zBI_y hbv (fun a => zBM_le (zV_le k 0) _ _ _ _) c_34
                      rw [hbm] at hz
                      refine lv_iload hx hb dL_ahead_124 (lv_at hl 0 rfl) ?_
                      refine lv_iload hx hb dL_ahead_126 (lv_at hl 3 rfl) ?_
                      refine lv_icmp_le (tgt := 136) hx hb dL_ahead_128 (by decide) (fun c_128 => ?_) (fun c_128 => ?_)
                      · skip
                        have hzz := hz
                        rw [if_neg (Int32.not_lt.mpr c_128)] at hzz
                        refine lv_iload hx hb dL_ahead_136 (lv_at hl 3 rfl) ?_
                        refine lv_istore (lv' := [(8, .int bv), (11, .int (nI 1000000000)), (10, .int (nI sd)), (9, .int (nI j)), (7, .int (nI i)), (5, .long sv), (0, .ref ax), (1, .ref rx), (2, .ref ry), (3, .int (nI sd)), (4, .int (nI k))]) hx hb dL_ahead_138 hl (by decide) rfl (fun ls hl => ?_)
                        refine lv_iinc (v := nI (j + 1)) (lv' := [(9, .int (nI (j + 1))), (8, .int bv), (11, .int (nI 1000000000)), (10, .int (nI sd)), (7, .int (nI i)), (5, .long sv), (0, .ref ax), (1, .ref rx), (2, .ref ry), (3, .int (nI sd)), (4, .int (nI k))]) hx hb dL_ahead_140 hl (k := 3) rfl (nI_1 j) (by decide) rfl (fun ls hl => ?_)
                        refine lv_goto (tgt := 18) hx hb dL_ahead_143 (by decide) ?_
                        exact ih18 (j + 1) _ _ _ _ (by omega) hzz hk4 ht4 (by omega) _ _ hP hS _ (lv_sub hl [0, 1, 4, 5, 6, 7, 8, 9, 10] rfl)
                      · skip
                        have hzz := hz
                        rw [if_pos (Int32.not_le.mp c_128)] at hzz
                        refine lv_iload hx hb dL_ahead_131 (lv_at hl 0 rfl) ?_
                        refine lv_goto (tgt := 138) hx hb dL_ahead_133 (by decide) ?_
                        refine lv_istore (lv' := [(8, .int (nI 1000000000)), (11, .int (nI 1000000000)), (10, .int (nI sd)), (9, .int (nI j)), (7, .int (nI i)), (5, .long sv), (0, .ref ax), (1, .ref rx), (2, .ref ry), (3, .int (nI sd)), (4, .int (nI k))]) hx hb dL_ahead_138 hl (by decide) rfl (fun ls hl => ?_)
                        refine lv_iinc (v := nI (j + 1)) (lv' := [(9, .int (nI (j + 1))), (8, .int (nI 1000000000)), (11, .int (nI 1000000000)), (10, .int (nI sd)), (7, .int (nI i)), (5, .long sv), (0, .ref ax), (1, .ref rx), (2, .ref ry), (3, .int (nI sd)), (4, .int (nI k))]) hx hb dL_ahead_140 hl (k := 3) rfl (nI_1 j) (by decide) rfl (fun ls hl => ?_)
                        refine lv_goto (tgt := 18) hx hb dL_ahead_143 (by decide) ?_
                        exact ih18 (j + 1) _ _ _ _ (by omega) hzz hk4 ht4 (by omega) _ _ hP hS _ (lv_sub hl [0, 1, 4, 5, 6, 7, 8, 9, 10] rfl)
                    · skip
                      have c_103 : ¬ (dg (zsh own j (j + i)) 15) = k := fun h9 => c_103 ((nI_eq (a := dg (zsh own j (j + i)) 15) (b := k) (by omega) (by omega)).mpr h9)
                      exact absurd c_73 c_103
                · skip
                  refine zz_i (y := nI (1 - sd)) (by rw [if_neg hz9]) ?_
                  refine lv_istore (lv' := [(10, .int (nI (1 - sd))), (9, .int (nI j)), (8, .int bv), (7, .int (nI i)), (5, .long sv), (0, .ref ax), (1, .ref rx), (2, .ref ry), (3, .int (nI sd)), (4, .int (nI k))]) hx hb dL_ahead_60 hl (by decide) rfl (fun ls hl => ?_)
                  refine lv_aload_n hx hb dL_ahead_62 rfl (lv_at hl 7 rfl) ?_
                  refine lv_bipush (v := 16) hx hb dL_ahead_63 (by decide) ?_
                  refine lv_iload_n hx hb dL_ahead_65 rfl (lv_at hl 8 rfl) ?_
                  refine lv_imul hx hb dL_ahead_66 ?_
                  refine zz_i (y := nI (16 * sd)) (pk_mul 16 sd) ?_
                  refine lv_bipush (v := 15) hx hb dL_ahead_67 (by decide) ?_
                  refine lv_iadd hx hb dL_ahead_69 ?_
                  refine zz_i (y := nI (16 * sd + 15)) (nI_add (16 * sd) 15) ?_
                  refine zi_iald hx hb hK hP 4 0 rfl rfl (j := 16 * sd + 15) rfl (by omega) (by decide) dL_ahead_70 ?_
                  refine zz_i (y := nI (dg (zsh own j (j + i)) 15)) (zr1 hw_48 (by omega)) ?_
                  refine lv_iload hx hb dL_ahead_71 (lv_at hl 9 rfl) ?_
                  refine lv_icmp_ne (tgt := 81) hx hb dL_ahead_73 (by decide) (fun c_73 => ?_) (fun c_73 => ?_)
                  · skip
                    have c_73 : ¬ (dg (zsh own j (j + i)) 15) = k := fun h9 => c_73 ((nI_eq (a := dg (zsh own j (j + i)) 15) (b := k) (by omega) (by omega)).mpr h9)
                    refine lv_aload_n hx hb dL_ahead_81 rfl (lv_at hl 5 rfl) ?_
                    refine lv_aload_n hx hb dL_ahead_82 rfl (lv_at hl 7 rfl) ?_
                    refine lv_iload hx hb dL_ahead_83 (lv_at hl 0 rfl) ?_
                    refine lv_iload hx hb dL_ahead_85 (lv_at hl 9 rfl) ?_
                    refine zrw_i (w1 := fun u : Nat × (Nat → Int32) => [(ax, .inr (2, [.ref a0, .ref a1, .ref ae, .ref aw, .int pI, .int tI, .int mk, .int wn, .int cnt])), (ae, .inr (0, [.ref at_, .int (nI u.1)])), (at_, .inl (cyI, 13500, .inl u.2)), (ry, .inl (cyI, 32, .inl u_48))]) (al := [ax, ae, at_, ry]) (va_runS (As := [.ref ax, .ref ry, .int (nI (1 - sd)), .int (nI k)]) (rest := []) ⟨hx, hb, hml, hown, hts⟩ (c_L_plain l dC dI cyI cyJ tb ax a0 a1 ae aw at_ ry pI tI mk wn cnt w2 u_48 k k2 (1 - sd) (if ztk oth (j + i) = true then zsh oth (j + i) 0 else oth) (zsh own j (j + i)) hk1 (by omega) (hw_48.sw hsd) hQ2 hO2 hg2.sw hk4 ht4 (z_nd hDD.1 [0, 1, 2, 4] (by decide) rfl)) (va_cwS 4 hts gL_ahead_L_plain rfl rfl rfl (by decide +kernel) ⟨(show 40 + 1 ≤ 50 by omega), (show 8 + (7 + 11) + 900 ≤ 1100 by omega)⟩) (zPc_S zB_X hP hK [0, 1, 2, 4] rfl (zX_at hX hS (zA_pl (al := [ax, ae, at_, rx, ry]) (bl := [ax, ae, at_, ry]) [0, 1, 2, 4] rfl))) rfl rfl hl.1 rfl (lv_room (Nat.le_of_ble_eq_true rfl)) dL_ahead_87 ⟨Nat.zero_le _, Nat.zero_le _⟩) hP hDD hS [0, 1, 2, 4] rfl (fun _ => rfl) (fun r_87 u_87 H locs hw_87 hP hS => ?_)
                    have hP : va_P (dC, dI) vwCl [(ax, .inr (2, [.ref a0, .ref a1, .ref ae, .ref aw, .int pI, .int tI, .int mk, .int wn, .int cnt])), (ae, .inr (0, [.ref at_, .int (nI u_87.1)])), (at_, .inl (cyI, 13500, .inl u_87.2)), (rx, .inl (cyI, 32, .inl F)), (ry, .inl (cyI, 32, .inl u_48))] H := hP
                    refine zz_i (y := nI (zLf k (if ztk oth (j + i) = true then zsh oth (j + i) 0 else oth) (zsh own j (j + i)))) hw_87.1 ?_
                    refine lv_istore (lv' := [(11, .int (nI (zLf k (if ztk oth (j + i) = true then zsh oth (j + i) 0 else oth) (zsh own j (j + i))))), (10, .int (nI (1 - sd))), (9, .int (nI j)), (8, .int bv), (7, .int (nI i)), (5, .long sv), (0, .ref ax), (1, .ref rx), (2, .ref ry), (3, .int (nI sd)), (4, .int (nI k))]) hx hb dL_ahead_90 hl (by decide) rfl (fun ls hl => ?_)
                    refine lv_aload_n hx hb dL_ahead_92 rfl (lv_at hl 8 rfl) ?_
                    refine lv_bipush (v := 16) hx hb dL_ahead_93 (by decide) ?_
                    refine lv_iload_n hx hb dL_ahead_95 rfl (lv_at hl 9 rfl) ?_
                    refine lv_imul hx hb dL_ahead_96 ?_
                    refine zz_i (y := nI (16 * sd)) (pk_mul 16 sd) ?_
                    refine lv_bipush (v := 15) hx hb dL_ahead_97 (by decide) ?_
                    refine lv_iadd hx hb dL_ahead_99 ?_
                    refine zz_i (y := nI (16 * sd + 15)) (nI_add (16 * sd) 15) ?_
                    refine zi_iald hx hb hK hP 4 0 rfl rfl (j := 16 * sd + 15) rfl (by omega) (by decide) dL_ahead_100 ?_
                    refine zz_i (y := nI (dg (zsh own j (j + i)) 15)) (zr1 hw_48 (by omega)) ?_
                    refine lv_iload hx hb dL_ahead_101 (lv_at hl 10 rfl) ?_
                    refine lv_icmp_eq (tgt := 112) hx hb dL_ahead_103 (by decide) (fun c_103 => ?_) (fun c_103 => ?_)
                    · skip
                      have c_103 : (dg (zsh own j (j + i)) 15) = k := (nI_eq (a := dg (zsh own j (j + i)) 15) (b := k) (by omega) (by omega)).mp c_103
                      exact absurd c_103 c_73
                    · skip
                      have c_103 : ¬ (dg (zsh own j (j + i)) 15) = k := fun h9 => c_103 ((nI_eq (a := dg (zsh own j (j + i)) 15) (b := k) (by omega) (by omega)).mpr h9)
                      refine lv_iload hx hb dL_ahead_106 (lv_at hl 1 rfl) ?_
                      refine lv_iload_n hx hb dL_ahead_108 rfl (lv_at hl 9 rfl) ?_
                      refine lv_icmp_ne (tgt := 117) hx hb dL_ahead_109 (by decide) (fun c_109 => ?_) (fun c_109 => ?_)
                      · skip
                        have c_109 : ¬ (1 - sd) = sd := fun h9 => c_109 ((nI_eq (a := 1 - sd) (b := sd) (by omega) (by omega)).mpr h9)
                        refine lv_ldc (v := 1000000000) hx hb hown (hts (.constant RL 53 (1000000000)) (List.mem_of_getElem? (i := 1) rfl)) dL_ahead_117 ?_
                        refine lv_iload hx hb dL_ahead_119 (lv_at hl 0 rfl) ?_
                        refine lv_isub hx hb dL_ahead_121 ?_
                        refine zz_i (y := nI (1000000000 - (zLf k (if ztk oth (j + i) = true then zsh oth (j + i) 0 else oth) (zsh own j (j + i))))) (pk_sub (a := 1000000000) (b := zLf k (if ztk oth (j + i) = true then zsh oth (j + i) 0 else oth) (zsh own j (j + i))) (zLf_le _ _ _)) ?_
                        refine lv_istore (lv' := [(11, .int (nI (1000000000 - (zLf k (if ztk oth (j + i) = true then zsh oth (j + i) 0 else oth) (zsh own j (j + i)))))), (10, .int (nI (1 - sd))), (9, .int (nI j)), (8, .int bv), (7, .int (nI i)), (5, .long sv), (0, .ref ax), (1, .ref rx), (2, .ref ry), (3, .int (nI sd)), (4, .int (nI k))]) hx hb dL_ahead_122 hl (by decide) rfl (fun ls hl => ?_)
                        have hbm : zBM (zV k 0) own oth j i = 1000000000 - zLf k (if ztk oth (j + i) = true then zsh oth (j + i) 0 else oth) (zsh own j (j + i)) := zBM_o (zhome_n hO2 c_73) (by simpa using hz9)
                        have hz : zBI (fun fr => zBM (zV k 0) own oth fr i) own oth i (j + 1) (if bv < nI (zBM (zV k 0) own oth j i) then nI (zBM (zV k 0) own oth j i) else bv) := zBI_y hbv (fun a => zBM_le (zV_le k 0) _ _ _ _) c_34
                        rw [hbm] at hz
                        refine lv_iload hx hb dL_ahead_124 (lv_at hl 0 rfl) ?_
                        refine lv_iload hx hb dL_ahead_126 (lv_at hl 3 rfl) ?_
                        refine lv_icmp_le (tgt := 136) hx hb dL_ahead_128 (by decide) (fun c_128 => ?_) (fun c_128 => ?_)
                        · skip
                          have hzz := hz
                          rw [if_neg (Int32.not_lt.mpr c_128)] at hzz
                          refine lv_iload hx hb dL_ahead_136 (lv_at hl 3 rfl) ?_
                          refine lv_istore (lv' := [(8, .int bv), (11, .int (nI (1000000000 - (zLf k (if ztk oth (j + i) = true then zsh oth (j + i) 0 else oth) (zsh own j (j + i)))))), (10, .int (nI (1 - sd))), (9, .int (nI j)), (7, .int (nI i)), (5, .long sv), (0, .ref ax), (1, .ref rx), (2, .ref ry), (3, .int (nI sd)), (4, .int (nI k))]) hx hb dL_ahead_138 hl (by decide) rfl (fun ls hl => ?_)
                          refine lv_iinc (v := nI (j + 1)) (lv' := [(9, .int (nI (j + 1))), (8, .int bv), (11, .int (nI (1000000000 - (zLf k (if ztk oth (j + i) = true then zsh oth (j + i) 0 else oth) (zsh own j (j + i)))))), (10, .int (nI (1 - sd))), (7, .int (nI i)), (5, .long sv), (0, .ref ax), (1, .ref rx), (2, .ref ry), (3, .int (nI sd)), (4, .int (nI k))]) hx hb dL_ahead_140 hl (k := 3) rfl (nI_1 j) (by decide) rfl (fun ls hl => ?_)
                          refine lv_goto (tgt := 18) hx hb dL_ahead_143 (by decide) ?_
                          exact ih18 (j + 1) _ _ _ _ (by omega) hzz hw_87.2.2 hw_87.2.1 (by omega) _ _ hP hS _ (lv_sub hl [0, 1, 4, 5, 6, 7, 8, 9, 10] rfl)
                        · skip
                          have hzz := hz
                          rw [if_pos (Int32.not_le.mp c_128)] at hzz
                          refine lv_iload hx hb dL_ahead_131 (lv_at hl 0 rfl) ?_
                          refine lv_goto (tgt := 138) hx hb dL_ahead_133 (by decide) ?_
                          refine lv_istore (lv' := [(8, .int (nI (1000000000 - (zLf k (if ztk oth (j + i) = true then zsh oth (j + i) 0 else oth) (zsh own j (j + i)))))), (11, .int (nI (1000000000 - (zLf k (if ztk oth (j + i) = true then zsh oth (j + i) 0 else oth) (zsh own j (j + i)))))), (10, .int (nI (1 - sd))), (9, .int (nI j)), (7, .int (nI i)), (5, .long sv), (0, .ref ax), (1, .ref rx), (2, .ref ry), (3, .int (nI sd)), (4, .int (nI k))]) hx hb dL_ahead_138 hl (by decide) rfl (fun ls hl => ?_)
                          refine lv_iinc (v := nI (j + 1)) (lv' := [(9, .int (nI (j + 1))), (8, .int (nI (1000000000 - (zLf k (if ztk oth (j + i) = true then zsh oth (j + i) 0 else oth) (zsh own j (j + i)))))), (11, .int (nI (1000000000 - (zLf k (if ztk oth (j + i) = true then zsh oth (j + i) 0 else oth) (zsh own j (j + i)))))), (10, .int (nI (1 - sd))), (7, .int (nI i)), (5, .long sv), (0, .ref ax), (1, .ref rx), (2, .ref ry), (3, .int (nI sd)), (4, .int (nI k))]) hx hb dL_ahead_140 hl (k := 3) rfl (nI_1 j) (by decide) rfl (fun ls hl => ?_)
                          refine lv_goto (tgt := 18) hx hb dL_ahead_143 (by decide) ?_
                          exact ih18 (j + 1) _ _ _ _ (by omega) hzz hw_87.2.2 hw_87.2.1 (by omega) _ _ hP hS _ (lv_sub hl [0, 1, 4, 5, 6, 7, 8, 9, 10] rfl)
                      · skip
                        have c_109 : (1 - sd) = sd := (nI_eq (a := 1 - sd) (b := sd) (by omega) (by omega)).mp c_109
                        exact absurd c_109 (by omega)
                  · skip
                    have c_73 : (dg (zsh own j (j + i)) 15) = k := (nI_eq (a := dg (zsh own j (j + i)) 15) (b := k) (by omega) (by omega)).mp c_73
                    refine lv_ldc (v := 1000000000) hx hb hown (hts (.constant RL 53 (1000000000)) (List.mem_of_getElem? (i := 1) rfl)) dL_ahead_76 ?_
                    refine zz_i (y := nI 1000000000) rfl ?_
                    refine lv_goto (tgt := 90) hx hb dL_ahead_78 (by decide) ?_
                    refine lv_istore (lv' := [(11, .int (nI 1000000000)), (10, .int (nI (1 - sd))), (9, .int (nI j)), (8, .int bv), (7, .int (nI i)), (5, .long sv), (0, .ref ax), (1, .ref rx), (2, .ref ry), (3, .int (nI sd)), (4, .int (nI k))]) hx hb dL_ahead_90 hl (by decide) rfl (fun ls hl => ?_)
                    refine lv_aload_n hx hb dL_ahead_92 rfl (lv_at hl 8 rfl) ?_
                    refine lv_bipush (v := 16) hx hb dL_ahead_93 (by decide) ?_
                    refine lv_iload_n hx hb dL_ahead_95 rfl (lv_at hl 9 rfl) ?_
                    refine lv_imul hx hb dL_ahead_96 ?_
                    refine zz_i (y := nI (16 * sd)) (pk_mul 16 sd) ?_
                    refine lv_bipush (v := 15) hx hb dL_ahead_97 (by decide) ?_
                    refine lv_iadd hx hb dL_ahead_99 ?_
                    refine zz_i (y := nI (16 * sd + 15)) (nI_add (16 * sd) 15) ?_
                    refine zi_iald hx hb hK hP 4 0 rfl rfl (j := 16 * sd + 15) rfl (by omega) (by decide) dL_ahead_100 ?_
                    refine zz_i (y := nI (dg (zsh own j (j + i)) 15)) (zr1 hw_48 (by omega)) ?_
                    refine lv_iload hx hb dL_ahead_101 (lv_at hl 10 rfl) ?_
                    refine lv_icmp_eq (tgt := 112) hx hb dL_ahead_103 (by decide) (fun c_103 => ?_) (fun c_103 => ?_)
                    · skip
                      have c_103 : (dg (zsh own j (j + i)) 15) = k := (nI_eq (a := dg (zsh own j (j + i)) 15) (b := k) (by omega) (by omega)).mp c_103
                      refine lv_iload hx hb dL_ahead_112 (lv_at hl 0 rfl) ?_
                      refine lv_goto (tgt := 122) hx hb dL_ahead_114 (by decide) ?_
                      refine lv_istore (lv' := [(11, .int (nI 1000000000)), (10, .int (nI (1 - sd))), (9, .int (nI j)), (8, .int bv), (7, .int (nI i)), (5, .long sv), (0, .ref ax), (1, .ref rx), (2, .ref ry), (3, .int (nI sd)), (4, .int (nI k))]) hx hb dL_ahead_122 hl (by decide) rfl (fun ls hl => ?_)
                      have hbm : zBM (zV k 0) own oth j i = 1000000000 := zBM_h ((zhome_iff hO2).mpr c_73)
                      have hz : zBI (fun fr => zBM (zV k 0) own oth fr i) own oth i (j + 1) (if bv < nI (zBM (zV k 0) own oth j i) then nI (zBM (zV k 0) own oth j i) else bv) := zBI_y hbv (fun a => zBM_le (zV_le k 0) _ _ _ _) c_34
                      rw [hbm] at hz
                      refine lv_iload hx hb dL_ahead_124 (lv_at hl 0 rfl) ?_
                      refine lv_iload hx hb dL_ahead_126 (lv_at hl 3 rfl) ?_
                      refine lv_icmp_le (tgt := 136) hx hb dL_ahead_128 (by decide) (fun c_128 => ?_) (fun c_128 => ?_)
                      · skip
                        have hzz := hz
                        rw [if_neg (Int32.not_lt.mpr c_128)] at hzz
                        refine lv_iload hx hb dL_ahead_136 (lv_at hl 3 rfl) ?_
                        refine lv_istore (lv' := [(8, .int bv), (11, .int (nI 1000000000)), (10, .int (nI (1 - sd))), (9, .int (nI j)), (7, .int (nI i)), (5, .long sv), (0, .ref ax), (1, .ref rx), (2, .ref ry), (3, .int (nI sd)), (4, .int (nI k))]) hx hb dL_ahead_138 hl (by decide) rfl (fun ls hl => ?_)
                        refine lv_iinc (v := nI (j + 1)) (lv' := [(9, .int (nI (j + 1))), (8, .int bv), (11, .int (nI 1000000000)), (10, .int (nI (1 - sd))), (7, .int (nI i)), (5, .long sv), (0, .ref ax), (1, .ref rx), (2, .ref ry), (3, .int (nI sd)), (4, .int (nI k))]) hx hb dL_ahead_140 hl (k := 3) rfl (nI_1 j) (by decide) rfl (fun ls hl => ?_)
                        refine lv_goto (tgt := 18) hx hb dL_ahead_143 (by decide) ?_
                        exact ih18 (j + 1) _ _ _ _ (by omega) hzz hk4 ht4 (by omega) _ _ hP hS _ (lv_sub hl [0, 1, 4, 5, 6, 7, 8, 9, 10] rfl)
                      · skip
                        have hzz := hz
                        rw [if_pos (Int32.not_le.mp c_128)] at hzz
                        refine lv_iload hx hb dL_ahead_131 (lv_at hl 0 rfl) ?_
                        refine lv_goto (tgt := 138) hx hb dL_ahead_133 (by decide) ?_
                        refine lv_istore (lv' := [(8, .int (nI 1000000000)), (11, .int (nI 1000000000)), (10, .int (nI (1 - sd))), (9, .int (nI j)), (7, .int (nI i)), (5, .long sv), (0, .ref ax), (1, .ref rx), (2, .ref ry), (3, .int (nI sd)), (4, .int (nI k))]) hx hb dL_ahead_138 hl (by decide) rfl (fun ls hl => ?_)
                        refine lv_iinc (v := nI (j + 1)) (lv' := [(9, .int (nI (j + 1))), (8, .int (nI 1000000000)), (11, .int (nI 1000000000)), (10, .int (nI (1 - sd))), (7, .int (nI i)), (5, .long sv), (0, .ref ax), (1, .ref rx), (2, .ref ry), (3, .int (nI sd)), (4, .int (nI k))]) hx hb dL_ahead_140 hl (k := 3) rfl (nI_1 j) (by decide) rfl (fun ls hl => ?_)
                        refine lv_goto (tgt := 18) hx hb dL_ahead_143 (by decide) ?_
                        exact ih18 (j + 1) _ _ _ _ (by omega) hzz hk4 ht4 (by omega) _ _ hP hS _ (lv_sub hl [0, 1, 4, 5, 6, 7, 8, 9, 10] rfl)
                    · skip
                      have c_103 : ¬ (dg (zsh own j (j + i)) 15) = k := fun h9 => c_103 ((nI_eq (a := dg (zsh own j (j + i)) 15) (b := k) (by omega) (by omega)).mpr h9)
                      exact absurd c_73 c_103
        exact li 16 0 (-1) k1 w1 g1 (by omega) (Or.inl ⟨rfl, rfl, rfl⟩) hk3 ht3 (by omega) _ _ hP hS _ (lv_sub hl [0, 1, 2, 3, 4, 5, 6, 7, 8] rfl)
  exact lo 6 0 0 kk wf G (by omega) rfl hkk htb (by omega) _ _ hP hS _ (lv_sub hl [0, 1, 2, 3, 4, 5, 6] rfl)

set_option maxHeartbeats 4000000 in
set_option maxRecDepth 100000 in
theorem c_L_behind (l : Launch) (dC : Nat → ClassId) (dI : Nat → Nat → Nat) (cyI cyJ : ClassId) (tb ax a0 a1 ae aw at_ rx ry rz rq : Nat) (pI tI mk wn cnt : Int32) (wf F G Z Qf : Nat → Int32) (k kk sd own oth fr mm d : Nat) (hk1 : 1 ≤ k) (hsd : sd ≤ 1) (hr9 : zRow F 0 sd own oth) (hO : zok k own) (hQ : zok k oth) (hg : zgd own oth) (hkk : kk ≤ 60) (htb : zTb kk wf) (hfr : fr ≤ 14) (hmm : mm ≤ 4) (hd : d ≤ 1) (hq0 : Qf 0 = nI k) (hq1 : Qf 1 = nI sd) (hq2 : Qf 2 = nI mm) (hc : zcm own oth fr mm = true) (hnd : [ax, ae, at_, rx, ry, rz, rq].Nodup) : Met l yL_behind wsL_behind ({ frames := 60, cells := 0, slots := 0, locals := 1300 }) (zPc [.ref ax, .int (nI fr), .int (nI d), .ref rx, .ref ry, .ref rz, .ref rq] (dC, dI) vwCl [(cyI, .int)] [(ax, .inr (2, [.ref a0, .ref a1, .ref ae, .ref aw, .int pI, .int tI, .int mk, .int wn, .int cnt])), (ae, .inr (0, [.ref at_, .int (nI kk)])), (at_, .inl (cyI, 13500, .inl wf)), (rx, .inl (cyI, 32, .inl F)), (ry, .inl (cyI, 32, .inl G)), (rz, .inl (cyI, 32, .inl Z)), (rq, .inl (cyI, 7, .inl Qf))] (fun U => zX tb (zA [ax, ae, at_, rx, ry, rz, rq]) U U.heap)) (va_Qi (fun (r : Int32) (u : Nat × (Nat → Int32) × (Nat → Int32) × (Nat → Int32)) => r = nI (zBM (zV k d) own oth fr mm) ∧ zTb u.1 u.2.1 ∧ u.1 ≤ 60) (fun (u : Nat × (Nat → Int32) × (Nat → Int32) × (Nat → Int32)) t => va_P (dC, dI) vwCl ([(ax, .inr (2, [.ref a0, .ref a1, .ref ae, .ref aw, .int pI, .int tI, .int mk, .int wn, .int cnt])), (ae, .inr (0, [.ref at_, .int (nI u.1)])), (at_, .inl (cyI, 13500, .inl u.2.1)), (rx, .inl (cyI, 32, .inl F)), (ry, .inl (cyI, 32, .inl u.2.2.1)), (rz, .inl (cyI, 32, .inl u.2.2.2)), (rq, .inl (cyI, 7, .inl Qf))]) t.heap) (zA [ax, ae, at_, rx, ry, rz, rq])) 0 0 (zA [ax, ae, at_, rx, ry, rz, rq]) := by
  refine Met.ofW (cc := cL_behind) (maxL := 9) (ret := (some .int)) (by decide) rfl ?_
  intro p e s m args below meth c s₁ B hml hv
  obtain ⟨rfl, hP, hK, hX⟩ := hv
  have hx := B.exec
  have hb := B.bytes
  have hr := B.returns
  have hts := atoms_spec (ws := wsL_behind) B.pre
  have hown : s.vm.findClass RL = some m.cls := findClass_of_methodNamed B.named
  have hlocks := B.notSynchronized
  have hl := lv_entry ([.ref ax, .int (nI fr), .int (nI d), .ref rx, .ref ry, .ref rz, .ref rq]) (n := 9) (Nat.le_of_ble_eq_true rfl)
  rw [lg_entry_eq]
  generalize (lg_sl ([.ref ax, .int (nI fr), .int (nI d), .ref rx, .ref ry, .ref rz, .ref rq]) ++ List.replicate (9 - (lg_sl ([.ref ax, .int (nI fr), .int (nI d), .ref rx, .ref ry, .ref rz, .ref rq])).length) Slot.unset).toArray = ls at hl ⊢
  have hl : lv_has ls 9 [(0, .ref ax), (1, .int (nI fr)), (2, .int (nI d)), (3, .ref rx), (4, .ref ry), (5, .ref rz), (6, .ref rq)] := hl
  have hS : va_S (zA [ax, ae, at_, rx, ry, rz, rq]) s.heap s.heap [] := va_S.rf
  have hDD : zD (zA [ax, ae, at_, rx, ry, rz, rq]) [ax, ae, at_, rx, ry, rz, rq] := ⟨hnd, fun _ h => h⟩
  generalize hQe : MQ below _ _ _ _ _ _ = Q
  have hk5 := hO.1
  refine lv_aload_n hx hb dL_behind_0 rfl (lv_at hl 3 rfl) ?_
  refine lv_aload hx hb dL_behind_1 (lv_at hl 4 rfl) ?_
  refine zrw_v (w1 := fun u : Nat → Int32 => [(rx, .inl (cyI, 32, .inl F)), (ry, .inl (cyI, 32, .inl u))]) (al := [rx, ry]) (va_runS (As := [.ref rx, .ref ry]) (rest := []) ⟨hx, hb, hml, hown, hts⟩ (c_L_copy l dC dI cyI cyJ rx ry F G (z_nd hDD.1 [3, 4] (by decide) rfl)) (va_cwS 2 hts gL_behind_L_copy rfl rfl rfl (by decide +kernel) ⟨(show 0 + 1 ≤ 60 by omega), (show 8 + (3 + 11) + 0 ≤ 1300 by omega)⟩) (zPc_S zB_T hP hK [3, 4] rfl (fun _ _ _ => trivial)) rfl rfl hl.1 rfl (lv_room (Nat.le_of_ble_eq_true rfl)) dL_behind_3 ⟨Nat.zero_le _, Nat.zero_le _⟩) hP hDD hS [3, 4] rfl (fun _ => rfl) (fun u_3 H locs hw_3 hP hS => ?_)
  have hP : va_P (dC, dI) vwCl [(ax, .inr (2, [.ref a0, .ref a1, .ref ae, .ref aw, .int pI, .int tI, .int mk, .int wn, .int cnt])), (ae, .inr (0, [.ref at_, .int (nI kk)])), (at_, .inl (cyI, 13500, .inl wf)), (rx, .inl (cyI, 32, .inl F)), (ry, .inl (cyI, 32, .inl u_3)), (rz, .inl (cyI, 32, .inl Z)), (rq, .inl (cyI, 7, .inl Qf))] H := hP
  refine lv_aload hx hb dL_behind_6 (lv_at hl 4 rfl) ?_
  refine lv_aload hx hb dL_behind_8 (lv_at hl 6 rfl) ?_
  refine lv_iconst (v := 1) hx hb dL_behind_10 (by decide) ?_
  refine zi_iald hx hb hK hP 6 0 rfl rfl (j := 1) rfl (by omega) (by decide) dL_behind_11 ?_
  refine zz_i (y := nI sd) hq1 ?_
  refine lv_iload_n hx hb dL_behind_12 rfl (lv_at hl 1 rfl) ?_
  refine lv_aload hx hb dL_behind_13 (lv_at hl 6 rfl) ?_
  refine lv_iconst (v := 2) hx hb dL_behind_15 (by decide) ?_
  refine zi_iald hx hb hK hP 6 0 rfl rfl (j := 2) rfl (by omega) (by decide) dL_behind_16 ?_
  refine zz_i (y := nI mm) hq2 ?_
  refine zrw_v (w1 := fun u : Nat → Int32 => [(ry, .inl (cyI, 32, .inl u))]) (al := [ry]) (va_runS (As := [.ref ry, .int (nI sd), .int (nI fr), .int (nI mm)]) (rest := []) ⟨hx, hb, hml, hown, hts⟩ (c_L_shift l dC dI cyI cyJ ry u_3 k sd own oth fr mm (by omega) (zRow_cg hsd hr9 (fun q _ hq => hw_3 q (by omega))) hO hQ hc (z_nd hDD.1 [4] (by decide) rfl)) (va_cwS 4 hts gL_behind_L_shift rfl rfl rfl (by decide +kernel) ⟨(show 1 + 1 ≤ 60 by omega), (show 8 + (5 + 11) + 22 ≤ 1300 by omega)⟩) (zPc_S zB_T hP hK [4] rfl (fun _ _ _ => trivial)) rfl rfl hl.1 rfl (lv_room (Nat.le_of_ble_eq_true rfl)) dL_behind_17 ⟨Nat.zero_le _, Nat.zero_le _⟩) hP hDD hS [4] rfl (fun _ => rfl) (fun u_17 H locs hw_17 hP hS => ?_)
  have hP : va_P (dC, dI) vwCl [(ax, .inr (2, [.ref a0, .ref a1, .ref ae, .ref aw, .int pI, .int tI, .int mk, .int wn, .int cnt])), (ae, .inr (0, [.ref at_, .int (nI kk)])), (at_, .inl (cyI, 13500, .inl wf)), (rx, .inl (cyI, 32, .inl F)), (ry, .inl (cyI, 32, .inl u_17)), (rz, .inl (cyI, 32, .inl Z)), (rq, .inl (cyI, 7, .inl Qf))] H := hP
  obtain ⟨hm0, hd0, hto⟩ := zcm_spec hc
  have hO2 : zok k (zsh own fr (fr + mm)) := zok_sh hO hd0 (by omega) (by omega) (by omega)
  have hQ2 : zok k (if ztk oth (fr + mm) = true then zsh oth (fr + mm) 0 else oth) := zok_tk hQ hto
  have hg2 : zgd (zsh own fr (fr + mm)) (if ztk oth (fr + mm) = true then zsh oth (fr + mm) 0 else oth) := zgd_mv hO hQ hg hc
  have hg6 := dg_lt (zsh own fr (fr + mm)) 15
  refine lv_aload hx hb dL_behind_20 (lv_at hl 4 rfl) ?_
  refine lv_bipush (v := 16) hx hb dL_behind_22 (by decide) ?_
  refine lv_aload hx hb dL_behind_24 (lv_at hl 6 rfl) ?_
  refine lv_iconst (v := 1) hx hb dL_behind_26 (by decide) ?_
  refine zi_iald hx hb hK hP 6 0 rfl rfl (j := 1) rfl (by omega) (by decide) dL_behind_27 ?_
  refine zz_i (y := nI sd) hq1 ?_
  refine lv_imul hx hb dL_behind_28 ?_
  refine zz_i (y := nI (16 * sd)) (pk_mul 16 sd) ?_
  refine lv_bipush (v := 15) hx hb dL_behind_29 (by decide) ?_
  refine lv_iadd hx hb dL_behind_31 ?_
  refine zz_i (y := nI (16 * sd + 15)) (nI_add (16 * sd) 15) ?_
  refine zi_iald hx hb hK hP 4 0 rfl rfl (j := 16 * sd + 15) rfl (by omega) (by decide) dL_behind_32 ?_
  refine zz_i (y := nI (dg (zsh own fr (fr + mm)) 15)) (zr1 hw_17 (by omega)) ?_
  refine lv_aload hx hb dL_behind_33 (lv_at hl 6 rfl) ?_
  refine lv_iconst (v := 0) hx hb dL_behind_35 (by decide) ?_
  refine zi_iald hx hb hK hP 6 0 rfl rfl (j := 0) rfl (by omega) (by decide) dL_behind_36 ?_
  refine zz_i (y := nI k) hq0 ?_
  refine lv_icmp_ne (tgt := 43) hx hb dL_behind_37 (by decide) (fun c_37 => ?_) (fun c_37 => ?_)
  · skip
    have c_37 : ¬ (dg (zsh own fr (fr + mm)) 15) = k := fun h9 => c_37 ((nI_eq (a := dg (zsh own fr (fr + mm)) 15) (b := k) (by omega) (by omega)).mpr h9)
    refine lv_aload hx hb dL_behind_43 (lv_at hl 6 rfl) ?_
    refine lv_iconst (v := 1) hx hb dL_behind_45 (by decide) ?_
    refine zi_iald hx hb hK hP 6 0 rfl rfl (j := 1) rfl (by omega) (by decide) dL_behind_46 ?_
    refine zz_i (y := nI sd) hq1 ?_
    refine lv_iload_n hx hb dL_behind_47 rfl (lv_at hl 1 rfl) ?_
    refine lv_aload hx hb dL_behind_48 (lv_at hl 6 rfl) ?_
    refine lv_iconst (v := 2) hx hb dL_behind_50 (by decide) ?_
    refine zi_iald hx hb hK hP 6 0 rfl rfl (j := 2) rfl (by omega) (by decide) dL_behind_51 ?_
    refine zz_i (y := nI mm) hq2 ?_
    refine lv_iadd hx hb dL_behind_52 ?_
    refine zz_i (y := nI (fr + mm)) (nI_add fr mm) ?_
    refine zro_i (va_runS (As := [.int (nI sd), .int (nI (fr + mm))]) (rest := []) ⟨hx, hb, hml, hown, hts⟩ (c_L_after l sd (fr + mm) (by omega) (by omega)) (va_cwS 2 hts gL_behind_L_after rfl rfl rfl (by decide +kernel) ⟨(show 0 + 1 ≤ 60 by omega), (show 8 + (2 + 11) + 0 ≤ 1300 by omega)⟩) zPu rfl rfl hl.1 rfl (lv_room (Nat.le_of_ble_eq_true rfl)) dL_behind_53 ⟨Nat.zero_le _, Nat.zero_le _⟩) hP hS (fun H locs hP hS => ?_)
    by_cases hz9 : zros (fr + mm) = true
    · skip
      refine zz_i (y := nI sd) (by rw [if_pos hz9]) ?_
      refine lv_istore (lv' := [(7, .int (nI sd)), (0, .ref ax), (1, .int (nI fr)), (2, .int (nI d)), (3, .ref rx), (4, .ref ry), (5, .ref rz), (6, .ref rq)]) hx hb dL_behind_56 hl (by decide) rfl (fun ls hl => ?_)
      refine lv_iload_n hx hb dL_behind_58 rfl (lv_at hl 3 rfl) ?_
      refine lv_if_ne (tgt := 77) hx hb dL_behind_59 (by decide) (fun c_59 => ?_) (fun c_59 => ?_)
      · skip
        have c_59 : ¬ d = 0 := fun h9 => c_59 ((nI_eq (a := d) (b := 0) (by omega) (by omega)).mpr h9)
        obtain rfl : d = 1 := by omega
        refine lv_aload_n hx hb dL_behind_77 rfl (lv_at hl 1 rfl) ?_
        refine lv_aload hx hb dL_behind_78 (lv_at hl 5 rfl) ?_
        refine lv_aload hx hb dL_behind_80 (lv_at hl 6 rfl) ?_
        refine lv_iload hx hb dL_behind_82 (lv_at hl 0 rfl) ?_
        refine lv_aload hx hb dL_behind_84 (lv_at hl 7 rfl) ?_
        refine lv_iconst (v := 0) hx hb dL_behind_86 (by decide) ?_
        refine zi_iald hx hb hK hP 6 0 rfl rfl (j := 0) rfl (by omega) (by decide) dL_behind_87 ?_
        refine zz_i (y := nI k) hq0 ?_
        refine zrw_i (w1 := fun u : Nat × (Nat → Int32) × (Nat → Int32) => [(ax, .inr (2, [.ref a0, .ref a1, .ref ae, .ref aw, .int pI, .int tI, .int mk, .int wn, .int cnt])), (ae, .inr (0, [.ref at_, .int (nI u.1)])), (at_, .inl (cyI, 13500, .inl u.2.1)), (ry, .inl (cyI, 32, .inl u_17)), (rz, .inl (cyI, 32, .inl u.2.2))]) (al := [ax, ae, at_, ry, rz]) (va_runS (As := [.ref ax, .ref ry, .ref rz, .int (nI sd), .int (nI k)]) (rest := []) ⟨hx, hb, hml, hown, hts⟩ (c_L_ahead l dC dI cyI cyJ tb ax a0 a1 ae aw at_ ry rz pI tI mk wn cnt wf u_17 Z k kk sd (zsh own fr (fr + mm)) (if ztk oth (fr + mm) = true then zsh oth (fr + mm) 0 else oth) hk1 (by omega) hw_17 hO2 hQ2 hg2 hkk htb (z_nd hDD.1 [0, 1, 2, 4, 5] (by decide) rfl)) (va_cwS 5 hts gL_behind_L_ahead rfl rfl rfl (by decide +kernel) ⟨(show 50 + 1 ≤ 60 by omega), (show 8 + (12 + 11) + 1100 ≤ 1300 by omega)⟩) (zPc_S zB_X hP hK [0, 1, 2, 4, 5] rfl (zX_at hX hS (zA_pl (al := [ax, ae, at_, rx, ry, rz, rq]) (bl := [ax, ae, at_, ry, rz]) [0, 1, 2, 4, 5] rfl))) rfl rfl hl.1 rfl (lv_room (Nat.le_of_ble_eq_true rfl)) dL_behind_88 ⟨Nat.zero_le _, Nat.zero_le _⟩) hP hDD hS [0, 1, 2, 4, 5] rfl (fun _ => rfl) (fun r_88 u_88 H locs hw_88 hP hS => ?_)
        have hP : va_P (dC, dI) vwCl [(ax, .inr (2, [.ref a0, .ref a1, .ref ae, .ref aw, .int pI, .int tI, .int mk, .int wn, .int cnt])), (ae, .inr (0, [.ref at_, .int (nI u_88.1)])), (at_, .inl (cyI, 13500, .inl u_88.2.1)), (rx, .inl (cyI, 32, .inl F)), (ry, .inl (cyI, 32, .inl u_17)), (rz, .inl (cyI, 32, .inl u_88.2.2)), (rq, .inl (cyI, 7, .inl Qf))] H := hP
        refine zz_i (y := nI (zV k 1 (zsh own fr (fr + mm)) (if ztk oth (fr + mm) = true then zsh oth (fr + mm) 0 else oth))) hw_88.1 ?_
        refine lv_istore (lv' := [(8, .int (nI (zV k 1 (zsh own fr (fr + mm)) (if ztk oth (fr + mm) = true then zsh oth (fr + mm) 0 else oth)))), (7, .int (nI sd)), (0, .ref ax), (1, .int (nI fr)), (2, .int (nI (1))), (3, .ref rx), (4, .ref ry), (5, .ref rz), (6, .ref rq)]) hx hb dL_behind_91 hl (by decide) rfl (fun ls hl => ?_)
        refine lv_iload hx hb dL_behind_93 (lv_at hl 1 rfl) ?_
        refine lv_aload hx hb dL_behind_95 (lv_at hl 8 rfl) ?_
        refine lv_iconst (v := 1) hx hb dL_behind_97 (by decide) ?_
        refine zi_iald hx hb hK hP 6 0 rfl rfl (j := 1) rfl (by omega) (by decide) dL_behind_98 ?_
        refine zz_i (y := nI sd) hq1 ?_
        refine lv_icmp_ne (tgt := 107) hx hb dL_behind_99 (by decide) (fun c_99 => ?_) (fun c_99 => ?_)
        · skip
          have c_99 : ¬ sd = sd := fun h9 => c_99 ((nI_eq (a := sd) (b := sd) (by omega) (by omega)).mpr h9)
          exact absurd rfl c_99
        · skip
          have c_99 : sd = sd := (nI_eq (a := sd) (b := sd) (by omega) (by omega)).mp c_99
          refine lv_iload hx hb dL_behind_102 (lv_at hl 0 rfl) ?_
          refine lv_goto (tgt := 112) hx hb dL_behind_104 (by decide) ?_
          subst hQe
          exact W.iret (v := nI (zV k 1 (zsh own fr (fr + mm)) (if ztk oth (fr + mm) = true then zsh oth (fr + mm) 0 else oth))) hx hb hr (fun t ht hW => ⟨⟨_, (u_88.1, u_88.2.1, u_17, u_88.2.2), rfl, ⟨(by rw [zBM_r (zhome_n hO2 c_37) hz9] <;> rfl), hw_88.2.1, hw_88.2.2⟩, zh ht hP⟩, hS.F ht⟩) hS.2.2 dL_behind_112
      · skip
        have c_59 : d = 0 := (nI_eq (a := d) (b := 0) (by omega) (by omega)).mp c_59
        obtain rfl : d = 0 := by omega
        refine lv_aload_n hx hb dL_behind_62 rfl (lv_at hl 1 rfl) ?_
        refine lv_aload hx hb dL_behind_63 (lv_at hl 5 rfl) ?_
        refine lv_iload hx hb dL_behind_65 (lv_at hl 0 rfl) ?_
        refine lv_aload hx hb dL_behind_67 (lv_at hl 7 rfl) ?_
        refine lv_iconst (v := 0) hx hb dL_behind_69 (by decide) ?_
        refine zi_iald hx hb hK hP 6 0 rfl rfl (j := 0) rfl (by omega) (by decide) dL_behind_70 ?_
        refine zz_i (y := nI k) hq0 ?_
        refine zrw_i (w1 := fun u : Nat × (Nat → Int32) => [(ax, .inr (2, [.ref a0, .ref a1, .ref ae, .ref aw, .int pI, .int tI, .int mk, .int wn, .int cnt])), (ae, .inr (0, [.ref at_, .int (nI u.1)])), (at_, .inl (cyI, 13500, .inl u.2)), (ry, .inl (cyI, 32, .inl u_17))]) (al := [ax, ae, at_, ry]) (va_runS (As := [.ref ax, .ref ry, .int (nI sd), .int (nI k)]) (rest := []) ⟨hx, hb, hml, hown, hts⟩ (c_L_plain l dC dI cyI cyJ tb ax a0 a1 ae aw at_ ry pI tI mk wn cnt wf u_17 k kk sd (zsh own fr (fr + mm)) (if ztk oth (fr + mm) = true then zsh oth (fr + mm) 0 else oth) hk1 (by omega) hw_17 hO2 hQ2 hg2 hkk htb (z_nd hDD.1 [0, 1, 2, 4] (by decide) rfl)) (va_cwS 4 hts gL_behind_L_plain rfl rfl rfl (by decide +kernel) ⟨(show 40 + 1 ≤ 60 by omega), (show 8 + (7 + 11) + 900 ≤ 1300 by omega)⟩) (zPc_S zB_X hP hK [0, 1, 2, 4] rfl (zX_at hX hS (zA_pl (al := [ax, ae, at_, rx, ry, rz, rq]) (bl := [ax, ae, at_, ry]) [0, 1, 2, 4] rfl))) rfl rfl hl.1 rfl (lv_room (Nat.le_of_ble_eq_true rfl)) dL_behind_71 ⟨Nat.zero_le _, Nat.zero_le _⟩) hP hDD hS [0, 1, 2, 4] rfl (fun _ => rfl) (fun r_71 u_71 H locs hw_71 hP hS => ?_)
        have hP : va_P (dC, dI) vwCl [(ax, .inr (2, [.ref a0, .ref a1, .ref ae, .ref aw, .int pI, .int tI, .int mk, .int wn, .int cnt])), (ae, .inr (0, [.ref at_, .int (nI u_71.1)])), (at_, .inl (cyI, 13500, .inl u_71.2)), (rx, .inl (cyI, 32, .inl F)), (ry, .inl (cyI, 32, .inl u_17)), (rz, .inl (cyI, 32, .inl Z)), (rq, .inl (cyI, 7, .inl Qf))] H := hP
        refine zz_i (y := nI (zLf k (zsh own fr (fr + mm)) (if ztk oth (fr + mm) = true then zsh oth (fr + mm) 0 else oth))) hw_71.1 ?_
        refine lv_goto (tgt := 91) hx hb dL_behind_74 (by decide) ?_
        refine lv_istore (lv' := [(8, .int (nI (zLf k (zsh own fr (fr + mm)) (if ztk oth (fr + mm) = true then zsh oth (fr + mm) 0 else oth)))), (7, .int (nI sd)), (0, .ref ax), (1, .int (nI fr)), (2, .int (nI (0))), (3, .ref rx), (4, .ref ry), (5, .ref rz), (6, .ref rq)]) hx hb dL_behind_91 hl (by decide) rfl (fun ls hl => ?_)
        refine lv_iload hx hb dL_behind_93 (lv_at hl 1 rfl) ?_
        refine lv_aload hx hb dL_behind_95 (lv_at hl 8 rfl) ?_
        refine lv_iconst (v := 1) hx hb dL_behind_97 (by decide) ?_
        refine zi_iald hx hb hK hP 6 0 rfl rfl (j := 1) rfl (by omega) (by decide) dL_behind_98 ?_
        refine zz_i (y := nI sd) hq1 ?_
        refine lv_icmp_ne (tgt := 107) hx hb dL_behind_99 (by decide) (fun c_99 => ?_) (fun c_99 => ?_)
        · skip
          have c_99 : ¬ sd = sd := fun h9 => c_99 ((nI_eq (a := sd) (b := sd) (by omega) (by omega)).mpr h9)
          exact absurd rfl c_99
        · skip
          have c_99 : sd = sd := (nI_eq (a := sd) (b := sd) (by omega) (by omega)).mp c_99
          refine lv_iload hx hb dL_behind_102 (lv_at hl 0 rfl) ?_
          refine lv_goto (tgt := 112) hx hb dL_behind_104 (by decide) ?_
          subst hQe
          exact W.iret (v := nI (zLf k (zsh own fr (fr + mm)) (if ztk oth (fr + mm) = true then zsh oth (fr + mm) 0 else oth))) hx hb hr (fun t ht hW => ⟨⟨_, (u_71.1, u_71.2, u_17, Z), rfl, ⟨(by rw [zBM_r (zhome_n hO2 c_37) hz9] <;> rfl), hw_71.2.1, hw_71.2.2⟩, zh ht hP⟩, hS.F ht⟩) hS.2.2 dL_behind_112
    · skip
      refine zz_i (y := nI (1 - sd)) (by rw [if_neg hz9]) ?_
      refine lv_istore (lv' := [(7, .int (nI (1 - sd))), (0, .ref ax), (1, .int (nI fr)), (2, .int (nI d)), (3, .ref rx), (4, .ref ry), (5, .ref rz), (6, .ref rq)]) hx hb dL_behind_56 hl (by decide) rfl (fun ls hl => ?_)
      refine lv_iload_n hx hb dL_behind_58 rfl (lv_at hl 3 rfl) ?_
      refine lv_if_ne (tgt := 77) hx hb dL_behind_59 (by decide) (fun c_59 => ?_) (fun c_59 => ?_)
      · skip
        have c_59 : ¬ d = 0 := fun h9 => c_59 ((nI_eq (a := d) (b := 0) (by omega) (by omega)).mpr h9)
        obtain rfl : d = 1 := by omega
        refine lv_aload_n hx hb dL_behind_77 rfl (lv_at hl 1 rfl) ?_
        refine lv_aload hx hb dL_behind_78 (lv_at hl 5 rfl) ?_
        refine lv_aload hx hb dL_behind_80 (lv_at hl 6 rfl) ?_
        refine lv_iload hx hb dL_behind_82 (lv_at hl 0 rfl) ?_
        refine lv_aload hx hb dL_behind_84 (lv_at hl 7 rfl) ?_
        refine lv_iconst (v := 0) hx hb dL_behind_86 (by decide) ?_
        refine zi_iald hx hb hK hP 6 0 rfl rfl (j := 0) rfl (by omega) (by decide) dL_behind_87 ?_
        refine zz_i (y := nI k) hq0 ?_
        refine zrw_i (w1 := fun u : Nat × (Nat → Int32) × (Nat → Int32) => [(ax, .inr (2, [.ref a0, .ref a1, .ref ae, .ref aw, .int pI, .int tI, .int mk, .int wn, .int cnt])), (ae, .inr (0, [.ref at_, .int (nI u.1)])), (at_, .inl (cyI, 13500, .inl u.2.1)), (ry, .inl (cyI, 32, .inl u_17)), (rz, .inl (cyI, 32, .inl u.2.2))]) (al := [ax, ae, at_, ry, rz]) (va_runS (As := [.ref ax, .ref ry, .ref rz, .int (nI (1 - sd)), .int (nI k)]) (rest := []) ⟨hx, hb, hml, hown, hts⟩ (c_L_ahead l dC dI cyI cyJ tb ax a0 a1 ae aw at_ ry rz pI tI mk wn cnt wf u_17 Z k kk (1 - sd) (if ztk oth (fr + mm) = true then zsh oth (fr + mm) 0 else oth) (zsh own fr (fr + mm)) hk1 (by omega) (hw_17.sw hsd) hQ2 hO2 hg2.sw hkk htb (z_nd hDD.1 [0, 1, 2, 4, 5] (by decide) rfl)) (va_cwS 5 hts gL_behind_L_ahead rfl rfl rfl (by decide +kernel) ⟨(show 50 + 1 ≤ 60 by omega), (show 8 + (12 + 11) + 1100 ≤ 1300 by omega)⟩) (zPc_S zB_X hP hK [0, 1, 2, 4, 5] rfl (zX_at hX hS (zA_pl (al := [ax, ae, at_, rx, ry, rz, rq]) (bl := [ax, ae, at_, ry, rz]) [0, 1, 2, 4, 5] rfl))) rfl rfl hl.1 rfl (lv_room (Nat.le_of_ble_eq_true rfl)) dL_behind_88 ⟨Nat.zero_le _, Nat.zero_le _⟩) hP hDD hS [0, 1, 2, 4, 5] rfl (fun _ => rfl) (fun r_88 u_88 H locs hw_88 hP hS => ?_)
        have hP : va_P (dC, dI) vwCl [(ax, .inr (2, [.ref a0, .ref a1, .ref ae, .ref aw, .int pI, .int tI, .int mk, .int wn, .int cnt])), (ae, .inr (0, [.ref at_, .int (nI u_88.1)])), (at_, .inl (cyI, 13500, .inl u_88.2.1)), (rx, .inl (cyI, 32, .inl F)), (ry, .inl (cyI, 32, .inl u_17)), (rz, .inl (cyI, 32, .inl u_88.2.2)), (rq, .inl (cyI, 7, .inl Qf))] H := hP
        refine zz_i (y := nI (zV k 1 (if ztk oth (fr + mm) = true then zsh oth (fr + mm) 0 else oth) (zsh own fr (fr + mm)))) hw_88.1 ?_
        refine lv_istore (lv' := [(8, .int (nI (zV k 1 (if ztk oth (fr + mm) = true then zsh oth (fr + mm) 0 else oth) (zsh own fr (fr + mm))))), (7, .int (nI (1 - sd))), (0, .ref ax), (1, .int (nI fr)), (2, .int (nI (1))), (3, .ref rx), (4, .ref ry), (5, .ref rz), (6, .ref rq)]) hx hb dL_behind_91 hl (by decide) rfl (fun ls hl => ?_)
        refine lv_iload hx hb dL_behind_93 (lv_at hl 1 rfl) ?_
        refine lv_aload hx hb dL_behind_95 (lv_at hl 8 rfl) ?_
        refine lv_iconst (v := 1) hx hb dL_behind_97 (by decide) ?_
        refine zi_iald hx hb hK hP 6 0 rfl rfl (j := 1) rfl (by omega) (by decide) dL_behind_98 ?_
        refine zz_i (y := nI sd) hq1 ?_
        refine lv_icmp_ne (tgt := 107) hx hb dL_behind_99 (by decide) (fun c_99 => ?_) (fun c_99 => ?_)
        · skip
          have c_99 : ¬ (1 - sd) = sd := fun h9 => c_99 ((nI_eq (a := 1 - sd) (b := sd) (by omega) (by omega)).mpr h9)
          refine lv_ldc (v := 1000000000) hx hb hown (hts (.constant RL 53 (1000000000)) (List.mem_of_getElem? (i := 1) rfl)) dL_behind_107 ?_
          refine lv_iload hx hb dL_behind_109 (lv_at hl 0 rfl) ?_
          refine lv_isub hx hb dL_behind_111 ?_
          refine zz_i (y := nI (1000000000 - (zV k 1 (if ztk oth (fr + mm) = true then zsh oth (fr + mm) 0 else oth) (zsh own fr (fr + mm))))) (pk_sub (a := 1000000000) (b := zV k 1 (if ztk oth (fr + mm) = true then zsh oth (fr + mm) 0 else oth) (zsh own fr (fr + mm))) (by first | exact zLf_le _ _ _ | exact zV_le _ _ _ _)) ?_
          subst hQe
          exact W.iret (v := nI (1000000000 - (zV k 1 (if ztk oth (fr + mm) = true then zsh oth (fr + mm) 0 else oth) (zsh own fr (fr + mm))))) hx hb hr (fun t ht hW => ⟨⟨_, (u_88.1, u_88.2.1, u_17, u_88.2.2), rfl, ⟨(by rw [zBM_o (zhome_n hO2 c_37) (by simpa using hz9)] <;> rfl), hw_88.2.1, hw_88.2.2⟩, zh ht hP⟩, hS.F ht⟩) hS.2.2 dL_behind_112
        · skip
          have c_99 : (1 - sd) = sd := (nI_eq (a := 1 - sd) (b := sd) (by omega) (by omega)).mp c_99
          exact absurd c_99 (by omega)
      · skip
        have c_59 : d = 0 := (nI_eq (a := d) (b := 0) (by omega) (by omega)).mp c_59
        obtain rfl : d = 0 := by omega
        refine lv_aload_n hx hb dL_behind_62 rfl (lv_at hl 1 rfl) ?_
        refine lv_aload hx hb dL_behind_63 (lv_at hl 5 rfl) ?_
        refine lv_iload hx hb dL_behind_65 (lv_at hl 0 rfl) ?_
        refine lv_aload hx hb dL_behind_67 (lv_at hl 7 rfl) ?_
        refine lv_iconst (v := 0) hx hb dL_behind_69 (by decide) ?_
        refine zi_iald hx hb hK hP 6 0 rfl rfl (j := 0) rfl (by omega) (by decide) dL_behind_70 ?_
        refine zz_i (y := nI k) hq0 ?_
        refine zrw_i (w1 := fun u : Nat × (Nat → Int32) => [(ax, .inr (2, [.ref a0, .ref a1, .ref ae, .ref aw, .int pI, .int tI, .int mk, .int wn, .int cnt])), (ae, .inr (0, [.ref at_, .int (nI u.1)])), (at_, .inl (cyI, 13500, .inl u.2)), (ry, .inl (cyI, 32, .inl u_17))]) (al := [ax, ae, at_, ry]) (va_runS (As := [.ref ax, .ref ry, .int (nI (1 - sd)), .int (nI k)]) (rest := []) ⟨hx, hb, hml, hown, hts⟩ (c_L_plain l dC dI cyI cyJ tb ax a0 a1 ae aw at_ ry pI tI mk wn cnt wf u_17 k kk (1 - sd) (if ztk oth (fr + mm) = true then zsh oth (fr + mm) 0 else oth) (zsh own fr (fr + mm)) hk1 (by omega) (hw_17.sw hsd) hQ2 hO2 hg2.sw hkk htb (z_nd hDD.1 [0, 1, 2, 4] (by decide) rfl)) (va_cwS 4 hts gL_behind_L_plain rfl rfl rfl (by decide +kernel) ⟨(show 40 + 1 ≤ 60 by omega), (show 8 + (7 + 11) + 900 ≤ 1300 by omega)⟩) (zPc_S zB_X hP hK [0, 1, 2, 4] rfl (zX_at hX hS (zA_pl (al := [ax, ae, at_, rx, ry, rz, rq]) (bl := [ax, ae, at_, ry]) [0, 1, 2, 4] rfl))) rfl rfl hl.1 rfl (lv_room (Nat.le_of_ble_eq_true rfl)) dL_behind_71 ⟨Nat.zero_le _, Nat.zero_le _⟩) hP hDD hS [0, 1, 2, 4] rfl (fun _ => rfl) (fun r_71 u_71 H locs hw_71 hP hS => ?_)
        have hP : va_P (dC, dI) vwCl [(ax, .inr (2, [.ref a0, .ref a1, .ref ae, .ref aw, .int pI, .int tI, .int mk, .int wn, .int cnt])), (ae, .inr (0, [.ref at_, .int (nI u_71.1)])), (at_, .inl (cyI, 13500, .inl u_71.2)), (rx, .inl (cyI, 32, .inl F)), (ry, .inl (cyI, 32, .inl u_17)), (rz, .inl (cyI, 32, .inl Z)), (rq, .inl (cyI, 7, .inl Qf))] H := hP
        refine zz_i (y := nI (zLf k (if ztk oth (fr + mm) = true then zsh oth (fr + mm) 0 else oth) (zsh own fr (fr + mm)))) hw_71.1 ?_
        refine lv_goto (tgt := 91) hx hb dL_behind_74 (by decide) ?_
        refine lv_istore (lv' := [(8, .int (nI (zLf k (if ztk oth (fr + mm) = true then zsh oth (fr + mm) 0 else oth) (zsh own fr (fr + mm))))), (7, .int (nI (1 - sd))), (0, .ref ax), (1, .int (nI fr)), (2, .int (nI (0))), (3, .ref rx), (4, .ref ry), (5, .ref rz), (6, .ref rq)]) hx hb dL_behind_91 hl (by decide) rfl (fun ls hl => ?_)
        refine lv_iload hx hb dL_behind_93 (lv_at hl 1 rfl) ?_
        refine lv_aload hx hb dL_behind_95 (lv_at hl 8 rfl) ?_
        refine lv_iconst (v := 1) hx hb dL_behind_97 (by decide) ?_
        refine zi_iald hx hb hK hP 6 0 rfl rfl (j := 1) rfl (by omega) (by decide) dL_behind_98 ?_
        refine zz_i (y := nI sd) hq1 ?_
        refine lv_icmp_ne (tgt := 107) hx hb dL_behind_99 (by decide) (fun c_99 => ?_) (fun c_99 => ?_)
        · skip
          have c_99 : ¬ (1 - sd) = sd := fun h9 => c_99 ((nI_eq (a := 1 - sd) (b := sd) (by omega) (by omega)).mpr h9)
          refine lv_ldc (v := 1000000000) hx hb hown (hts (.constant RL 53 (1000000000)) (List.mem_of_getElem? (i := 1) rfl)) dL_behind_107 ?_
          refine lv_iload hx hb dL_behind_109 (lv_at hl 0 rfl) ?_
          refine lv_isub hx hb dL_behind_111 ?_
          refine zz_i (y := nI (1000000000 - (zLf k (if ztk oth (fr + mm) = true then zsh oth (fr + mm) 0 else oth) (zsh own fr (fr + mm))))) (pk_sub (a := 1000000000) (b := zLf k (if ztk oth (fr + mm) = true then zsh oth (fr + mm) 0 else oth) (zsh own fr (fr + mm))) (by first | exact zLf_le _ _ _ | exact zV_le _ _ _ _)) ?_
          subst hQe
          exact W.iret (v := nI (1000000000 - (zLf k (if ztk oth (fr + mm) = true then zsh oth (fr + mm) 0 else oth) (zsh own fr (fr + mm))))) hx hb hr (fun t ht hW => ⟨⟨_, (u_71.1, u_71.2, u_17, Z), rfl, ⟨(by rw [zBM_o (zhome_n hO2 c_37) (by simpa using hz9)] <;> rfl), hw_71.2.1, hw_71.2.2⟩, zh ht hP⟩, hS.F ht⟩) hS.2.2 dL_behind_112
        · skip
          have c_99 : (1 - sd) = sd := (nI_eq (a := 1 - sd) (b := sd) (by omega) (by omega)).mp c_99
          exact absurd c_99 (by omega)
  · skip
    have c_37 : (dg (zsh own fr (fr + mm)) 15) = k := (nI_eq (a := dg (zsh own fr (fr + mm)) 15) (b := k) (by omega) (by omega)).mp c_37
    refine lv_ldc (v := 1000000000) hx hb hown (hts (.constant RL 53 (1000000000)) (List.mem_of_getElem? (i := 1) rfl)) dL_behind_40 ?_
    subst hQe
    exact W.iret (v := 1000000000) hx hb hr (fun t ht hW => ⟨⟨_, (kk, wf, u_17, Z), rfl, ⟨(by rw [zBM_h ((zhome_iff hO2).mpr c_37)] <;> rfl), htb, hkk⟩, zh ht hP⟩, hS.F ht⟩) hS.2.2 dL_behind_42

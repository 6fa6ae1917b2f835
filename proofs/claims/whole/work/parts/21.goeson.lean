/-! the reference moves a piece in a row, and goes on at a height -/
theorem z_shift {F : Nat → Int32} {k b sd own oth fr to c : Nat} (hsd : sd ≤ 1) (hr : zRow F b sd own oth) (hO : zok k own) (hQ : zok k oth) (hd : 0 < dg own fr) (hfr : fr < to) (hto : to ≤ 15) (hc : (c = 1 ∧ ztk oth to = true) ∨ (c = 0 ∧ ztk oth to = false)) :
    zRow (upd (upd (upd (upd F (b + 16 * sd + fr) (nI (dg own fr - 1))) (b + 16 * sd + to) (nI (dg own to + 1))) (b + 16 - 16 * sd + to) (nI (dg oth to - c))) (b + 16 - 16 * sd) (nI (dg oth 0 + c))) b sd (zsh own fr to) (if ztk oth to = true then zsh oth to 0 else oth)
    ∧ ∀ q, (q < b ∨ b + 32 ≤ q) → (upd (upd (upd (upd F (b + 16 * sd + fr) (nI (dg own fr - 1))) (b + 16 * sd + to) (nI (dg own to + 1))) (b + 16 - 16 * sd + to) (nI (dg oth to - c))) (b + 16 - 16 * sd) (nI (dg oth 0 + c))) q = F q := by
  have hO4 : ∀ p, p ≤ 15 → dg own p < 15 := fun p hp => by have := zok_dg hO p hp; omega
  have hQ4 : ∀ p, p ≤ 15 → dg oth p < 15 := fun p hp => by have := zok_dg hQ p hp; omega
  refine ⟨⟨fun p hp => ?_, fun p hp => ?_⟩, fun q hq => ?_⟩
  · rw [pk_un (by omega), pk_un (by omega), dg_sh hd (hO4 to hto) (by omega)]
    by_cases h1 : p = to
    · subst h1
      rw [pk_us, if_neg (by omega), if_pos rfl, Nat.sub_zero]
    · rw [pk_un (by omega)]
      by_cases h2 : p = fr
      · subst h2
        rw [pk_us, if_pos rfl, if_neg h1, Nat.add_zero]
      · rw [pk_un (by omega), if_neg h2, if_neg h1, Nat.add_zero, Nat.sub_zero]
        exact hr.1 p hp
  · have e : ∀ x, b + 16 * (1 - sd) + x = b + 16 - 16 * sd + x := fun x => by omega
    rw [e]
    have h0 := hr.2 p hp
    rw [e] at h0
    rcases hc with ⟨rfl, hk⟩ | ⟨rfl, hk⟩
    · rw [if_pos hk]
      obtain ⟨h5, h6, h7⟩ := ztk_spec hk
      rw [dg_sh h7 (hQ4 0 (by omega)) (by omega)]
      by_cases h1 : p = 0
      · subst h1
        rw [show b + 16 - 16 * sd + 0 = b + 16 - 16 * sd from rfl, pk_us, if_neg (by omega), if_pos rfl, Nat.sub_zero]
      · rw [pk_un (by omega)]
        by_cases h2 : p = to
        · subst h2
          rw [pk_us, if_pos rfl, if_neg h1, Nat.add_zero]
        · rw [pk_un (by omega), pk_un (by omega), pk_un (by omega), if_neg h2, if_neg h1, Nat.add_zero, Nat.sub_zero]
          exact h0
    · rw [if_neg (by rw [hk]; decide)]
      by_cases h1 : p = 0
      · subst h1
        rw [show b + 16 - 16 * sd + 0 = b + 16 - 16 * sd from rfl, pk_us, Nat.add_zero]
      · rw [pk_un (by omega)]
        by_cases h2 : p = to
        · subst h2
          rw [pk_us, Nat.sub_zero]
        · rw [pk_un (by omega), pk_un (by omega), pk_un (by omega)]
          exact h0
  · rw [pk_un (by omega), pk_un (by omega), pk_un (by omega), pk_un (by omega)]
theorem ztk_n1 {oth p : Nat} (h : zshr p = false) : ztk oth p = false := by rw [ztk, h]; rfl
theorem ztk_n2 {oth p : Nat} (h : dg oth p ≤ 0) : ztk oth p = false := by rw [ztk, decide_eq_false (by omega), Bool.and_false]
theorem ztk_y {oth p : Nat} (h : zshr p = true) (h2 : ¬ dg oth p ≤ 0) : ztk oth p = true := by rw [ztk, h, decide_eq_true (by omega)]; rfl
/-- rows, sides, marks, next places, best worths, sums -/
abbrev zU : Type := (Nat → Int32) × (Nat → Int32) × (Nat → Int32) × (Nat → Int32) × (Nat → Int32) × (Nat → Int64)
/-- a position is begun at a height -/
def zEnt (u : zU) (h sd own oth : Nat) : Prop := u.2.1 h = nI sd ∧ u.2.2.1 h = 0 ∧ u.2.2.2.1 h = 0 ∧ u.2.2.2.2.1 h = -1 ∧ u.2.2.2.2.2 h = 0 ∧ zRow u.1 (32 * h) sd own oth
/-- below height h all is as it was -/
def zAg (h : Nat) (u v : zU) : Prop := (∀ q, q < 32 * h → v.1 q = u.1 q) ∧ ∀ j, j < h → v.2.1 j = u.2.1 j ∧ v.2.2.1 j = u.2.2.1 j ∧ v.2.2.2.1 j = u.2.2.2.1 j ∧ v.2.2.2.2.1 j = u.2.2.2.2.1 j ∧ v.2.2.2.2.2 j = u.2.2.2.2.2 j
/-- .. and at h but for the next place and the best worth -/
def zKp (h : Nat) (u v : zU) : Prop := zAg h u v ∧ (∀ q, q < 32 * h + 32 → v.1 q = u.1 q) ∧ v.2.1 h = u.2.1 h ∧ v.2.2.1 h = u.2.2.1 h ∧ v.2.2.2.2.2 h = u.2.2.2.2.2 h
theorem zRow_cg {F G : Nat → Int32} {b sd own oth : Nat} (hsd : sd ≤ 1) (h : zRow F b sd own oth) (hg : ∀ q, b ≤ q → q < b + 32 → G q = F q) : zRow G b sd own oth :=
  ⟨fun p hp => by rw [hg _ (by omega) (by omega)]; exact h.1 p hp, fun p hp => by rw [hg _ (by omega) (by omega)]; exact h.2 p hp⟩
theorem zRow_cp {F G : Nat → Int32} {b c sd own oth : Nat} (hsd : sd ≤ 1) (h : zRow F b sd own oth) (hg : ∀ j, j < 32 → G (c + j) = F (b + j)) : zRow G c sd own oth :=
  ⟨fun p hp => by rw [Nat.add_assoc, hg _ (by omega), ← Nat.add_assoc]; exact h.1 p hp, fun p hp => by rw [Nat.add_assoc, hg _ (by omega), ← Nat.add_assoc]; exact h.2 p hp⟩
theorem zBI_w {g : Nat → Nat} {own oth m j : Nat} {b : Int32} (h : zBI g own oth m j b) (hg : ∀ a, g a ≤ 1000000000) (c : zcm own oth j m = true) (hw : g j = 1000000000) : zBI g own oth m (j + 1) 1000000000 := by
  refine Or.inr ⟨by rw [zHas_s, c, Bool.or_true], ?_⟩
  rw [zBst_s, if_pos c, hw]
  have := zBst_le hg own oth m j
  rw [Nat.max_eq_right this]
  rfl
/-- where a height stands: at place f, with the best worth b so far; or its pass is behind it -/
def zGo (g : Nat → Nat) (own oth m f : Nat) (b : Int32) : Prop := zBI g own oth m f b ∨ (f = 15 ∧ ∃ x, x ≤ 1000000000 ∧ b = nI x)
theorem nI_nm {x : Nat} (h : x ≤ 1000000000) : ¬ nI x = -1 := by
  intro c
  have h5 : (nI x).toInt = -1 := by rw [c]; rfl
  rw [nI_toInt (by omega)] at h5
  omega
/-- what goesOn leaves -/
def zPo (k e : Nat) (h sd own oth mm f0 : Nat) (b0 : Int32) (r : Int32) (u : zU) : Prop :=
  (r = 1 ∧ ∃ fr, f0 ≤ fr ∧ fr ≤ 14 ∧ zcm own oth fr mm = true ∧ zhome (zsh own fr (fr + mm)) = false ∧ u.2.2.2.1 h = nI (fr + 1) ∧ zBI (fun fr => zBM (zV k e) own oth fr mm) own oth mm fr (u.2.2.2.2.1 h) ∧ ((zros (fr + mm) = true ∧ zEnt u (h + 1) sd (zsh own fr (fr + mm)) (if ztk oth (fr + mm) = true then zsh oth (fr + mm) 0 else oth)) ∨ (zros (fr + mm) = false ∧ zEnt u (h + 1) (1 - sd) (if ztk oth (fr + mm) = true then zsh oth (fr + mm) 0 else oth) (zsh own fr (fr + mm)))))
  ∨ (r = 1 ∧ zHas own oth mm 15 = false ∧ zBI (fun fr => zBM (zV k e) own oth fr mm) own oth mm f0 b0 ∧ u.2.2.2.1 h = nI 15 ∧ u.2.2.2.2.1 h = -1 ∧ zEnt u (h + 1) (1 - sd) oth own)
  ∨ (r = 0 ∧ ((zHas own oth mm 15 = true ∧ u.2.2.2.2.1 h = nI (zBst (fun fr => zBM (zV k e) own oth fr mm) own oth mm 15)) ∨ (f0 = 15 ∧ (∃ x, x ≤ 1000000000 ∧ b0 = nI x) ∧ u.2.2.2.2.1 h = b0)))
abbrev zGs (k e own oth mm f f0 : Nat) (b b0 : Int32) : Prop := (zBI (fun fr => zBM (zV k e) own oth fr mm) own oth mm f b ∧ zBI (fun fr => zBM (zV k e) own oth fr mm) own oth mm f0 b0) ∨ (f = 15 ∧ f0 = 15 ∧ (∃ x, x ≤ 1000000000 ∧ b0 = nI x) ∧ b = b0)
theorem zPo_c {k e h sd own oth mm f f0 : Nat} {b0 : Int32} {u : zU} (hf : f = 15) (hst : zGs k e own oth mm f f0 (u.2.2.2.2.1 h) b0) (c : ¬ u.2.2.2.2.1 h = -1) : zPo k e h sd own oth mm f0 b0 0 u := by
  subst hf
  rcases hst with ⟨h1, h2⟩ | ⟨h1, h2, h3, h4⟩
  · exact Or.inr (Or.inr ⟨rfl, Or.inl (zBI_t h1 c)⟩)
  · exact Or.inr (Or.inr ⟨rfl, Or.inr ⟨h2, h3, h4⟩⟩)
theorem zPo_b {k e h sd own oth mm f f0 : Nat} {b b0 : Int32} {u : zU} (hf : f = 15) (hst : zGs k e own oth mm f f0 b b0) (c : b = -1) (hn : u.2.2.2.1 h = nI f) (hb : u.2.2.2.2.1 h = b) (he : zEnt u (h + 1) (1 - sd) oth own) : zPo k e h sd own oth mm f0 b0 1 u := by
  subst hf
  rcases hst with ⟨h1, h2⟩ | ⟨h1, h2, ⟨x, hx1, hx2⟩, h4⟩
  · exact Or.inr (Or.inl ⟨rfl, zBI_f h1 (fun a => zBM_le (zV_le k e) _ _ _ _) c, h2, hn, hb.trans c, he⟩)
  · exact absurd (by rw [← hx2, ← h4]; exact c) (nI_nm hx1)
theorem zPo_a {k e h sd own oth mm f f0 : Nat} {b b0 : Int32} {u : zU} (hf : f ≤ 14) (hf0 : f0 ≤ f) (hst : zGs k e own oth mm f f0 b b0) (hc : zcm own oth f mm = true) (hh : zhome (zsh own f (f + mm)) = false) (hn : u.2.2.2.1 h = nI (f + 1)) (hb : u.2.2.2.2.1 h = b)
    (he : (zros (f + mm) = true ∧ zEnt u (h + 1) sd (zsh own f (f + mm)) (if ztk oth (f + mm) = true then zsh oth (f + mm) 0 else oth)) ∨ (zros (f + mm) = false ∧ zEnt u (h + 1) (1 - sd) (if ztk oth (f + mm) = true then zsh oth (f + mm) 0 else oth) (zsh own f (f + mm)))) : zPo k e h sd own oth mm f0 b0 1 u := by
  rcases hst with ⟨h1, h2⟩ | ⟨h1, -⟩
  · exact Or.inl ⟨rfl, f, hf0, hf, hc, hh, hn, by rw [hb]; exact h1, he⟩
  · omega
theorem zhome_n {k n : Nat} (h : zok k n) (c : ¬ dg n 15 = k) : zhome n = false := by
  cases hz : zhome n
  · rfl
  · exact absurd ((zhome_iff h).mp hz) c
theorem zGs_y {k e own oth mm f f0 : Nat} {b b' b0 : Int32} (hf : f < 15) (hst : zGs k e own oth mm f f0 b b0) (hz : zBI (fun fr => zBM (zV k e) own oth fr mm) own oth mm f b → zBI (fun fr => zBM (zV k e) own oth fr mm) own oth mm (f + 1) b') : zGs k e own oth mm (f + 1) f0 b' b0 := by
  rcases hst with ⟨h1, h2⟩ | ⟨h1, -⟩
  · exact Or.inl ⟨hz h1, h2⟩
  · omega
theorem zGs_0 {k e own oth mm f0 : Nat} {b0 : Int32} (h : zGo (fun fr => zBM (zV k e) own oth fr mm) own oth mm f0 b0) : zGs k e own oth mm f0 f0 b0 b0 := by
  rcases h with h1 | ⟨h1, h2⟩
  · exact Or.inl ⟨h1, h1⟩
  · exact Or.inr ⟨h1, h1, h2, rfl⟩
theorem zent_mk {Wf Sf Mf Nf Bf : Nat → Int32} {Uf : Nat → Int64} {h sd own oth : Nat} (hr : zRow Wf (32 * h) sd own oth) : zEnt (Wf, upd Sf h (nI sd), upd Mf h 0, upd Nf h 0, upd Bf h (-1), vp_updL Uf h 0) h sd own oth := ⟨pk_us, pk_us, pk_us, pk_us, pk_uLs, hr⟩
theorem zkp_mk {u0 : zU} {Wf gN gB : Nat → Int32} {h : Nat} {s9 : Int32} (h1 : ∀ j, j < h → gN j = u0.2.2.2.1 j) (h2 : ∀ j, j < h → gB j = u0.2.2.2.2.1 j) (h3 : ∀ q, q < 32 * h + 32 → Wf q = u0.1 q) : zKp h u0 (Wf, upd u0.2.1 (h + 1) s9, upd u0.2.2.1 (h + 1) 0, upd gN (h + 1) 0, upd gB (h + 1) (-1), vp_updL u0.2.2.2.2.2 (h + 1) 0) :=
  ⟨⟨fun q hq => h3 q (by omega), fun j hj => ⟨pk_un (by omega), pk_un (by omega), (pk_un (by omega)).trans (h1 j hj), (pk_un (by omega)).trans (h2 j hj), pk_uLn (by omega)⟩⟩, h3, pk_un (by omega), pk_un (by omega), pk_uLn (by omega)⟩
set_option maxHeartbeats 4000000 in
set_option maxRecDepth 100000 in
theorem c_X6_shifts (l : Launch) (dC : Nat → ClassId) (dI : Nat → Nat → Nat) (cyI cyJ : ClassId) (rx N9 : Nat) (hN : N9 < 1000) (F : Nat → Int32) (k b sd own oth fr mm : Nat) (hb9 : b + 32 ≤ N9) (hsd : sd ≤ 1) (hr9 : zRow F b sd own oth) (hO : zok k own) (hQ : zok k oth) (hfr : fr ≤ 14) (hmm : mm ≤ 4) (hcm : zcm own oth fr mm = true) (hnd : [rx].Nodup) : Met l yX6_shifts wsX6_shifts ({ frames := 2, cells := 0, slots := 0, locals := 42 }) (zPc [.ref rx, .int (nI b), .int (nI sd), .int (nI fr), .int (nI mm)] (dC, dI) vwCl [(cyI, .int), (cyJ, .long)] [(rx, .inl (cyI, N9, .inl F))] (fun _ => True)) (va_Qi (fun (r : Int32) (u : Nat → Int32) => r = bI (ztk oth (fr + mm)) ∧ zRow u b sd (zsh own fr (fr + mm)) (if ztk oth (fr + mm) = true then zsh oth (fr + mm) 0 else oth) ∧ ∀ q, (q < b ∨ b + 32 ≤ q) → u q = F q) (fun (u : Nat → Int32) t => va_P (dC, dI) vwCl ([(rx, .inl (cyI, N9, .inl u))]) t.heap) (zA [rx])) 0 0 (zA [rx]) := by
  refine Met.ofW (cc := cX6_shifts) (maxL := 8) (ret := (some .int)) (by decide) rfl ?_
  intro p e s m args below meth c s₁ B hml hv
  obtain ⟨rfl, hP, hK, hX⟩ := hv
  have hx := B.exec
  have hb := B.bytes
  have hr := B.returns
  have hts := atoms_spec (ws := wsX6_shifts) B.pre
  have hown : s.vm.findClass RX6 = some m.cls := findClass_of_methodNamed B.named
  have hlocks := B.notSynchronized
  have hl := lv_entry ([.ref rx, .int (nI b), .int (nI sd), .int (nI fr), .int (nI mm)]) (n := 8) (Nat.le_of_ble_eq_true rfl)
  rw [lg_entry_eq]
  generalize (lg_sl ([.ref rx, .int (nI b), .int (nI sd), .int (nI fr), .int (nI mm)]) ++ List.replicate (8 - (lg_sl ([.ref rx, .int (nI b), .int (nI sd), .int (nI fr), .int (nI mm)])).length) Slot.unset).toArray = ls at hl ⊢
  have hl : lv_has ls 8 [(0, .ref rx), (1, .int (nI b)), (2, .int (nI sd)), (3, .int (nI fr)), (4, .int (nI mm))] := hl
  have hS : va_S (zA [rx]) s.heap s.heap [] := va_S.rf
  have hDD : zD (zA [rx]) [rx] := ⟨hnd, fun _ h => h⟩
  obtain ⟨hm0, hd0, hto⟩ := zcm_spec hcm
  have hg0 := dg_lt own fr
  have hg1 := dg_lt own (fr + mm)
  have hg2 := dg_lt oth (fr + mm)
  have hg3 := dg_lt oth 0
  refine lv_iload_n hx hb dX6_shifts_0 rfl (lv_at hl 3 rfl) ?_
  refine lv_iload hx hb dX6_shifts_1 (lv_at hl 4 rfl) ?_
  refine lv_iadd hx hb dX6_shifts_3 ?_
  refine zz_i (y := nI (fr + mm)) (nI_add fr mm) ?_
  refine lv_istore (lv' := [(5, .int (nI (fr + mm))), (0, .ref rx), (1, .int (nI b)), (2, .int (nI sd)), (3, .int (nI fr)), (4, .int (nI mm))]) hx hb dX6_shifts_4 hl (by decide) rfl (fun ls hl => ?_)
  refine lv_iload_n hx hb dX6_shifts_6 rfl (lv_at hl 2 rfl) ?_
  refine lv_bipush (v := 16) hx hb dX6_shifts_7 (by decide) ?_
  refine lv_iadd hx hb dX6_shifts_9 ?_
  refine zz_i (y := nI (b + 16)) (nI_add b 16) ?_
  refine lv_bipush (v := 16) hx hb dX6_shifts_10 (by decide) ?_
  refine lv_iload_n hx hb dX6_shifts_12 rfl (lv_at hl 3 rfl) ?_
  refine lv_imul hx hb dX6_shifts_13 ?_
  refine zz_i (y := nI (16 * sd)) (pk_mul 16 sd) ?_
  refine lv_isub hx hb dX6_shifts_14 ?_
  refine zz_i (y := nI (b + 16 - (16 * sd))) (pk_sub (a := b + 16) (b := 16 * sd) (by omega)) ?_
  refine lv_istore (lv' := [(6, .int (nI (b + 16 - (16 * sd)))), (5, .int (nI (fr + mm))), (0, .ref rx), (1, .int (nI b)), (2, .int (nI sd)), (3, .int (nI fr)), (4, .int (nI mm))]) hx hb dX6_shifts_15 hl (by decide) rfl (fun ls hl => ?_)
  refine lv_aload_n hx hb dX6_shifts_17 rfl (lv_at hl 2 rfl) ?_
  refine lv_iload_n hx hb dX6_shifts_18 rfl (lv_at hl 3 rfl) ?_
  refine lv_bipush (v := 16) hx hb dX6_shifts_19 (by decide) ?_
  refine lv_iload_n hx hb dX6_shifts_21 rfl (lv_at hl 4 rfl) ?_
  refine lv_imul hx hb dX6_shifts_22 ?_
  refine zz_i (y := nI (16 * sd)) (pk_mul 16 sd) ?_
  refine lv_iadd hx hb dX6_shifts_23 ?_
  refine zz_i (y := nI (b + 16 * sd)) (nI_add b (16 * sd)) ?_
  refine lv_iload_n hx hb dX6_shifts_24 rfl (lv_at hl 5 rfl) ?_
  refine lv_iadd hx hb dX6_shifts_25 ?_
  refine zz_i (y := nI (b + 16 * sd + fr)) (nI_add (b + 16 * sd) fr) ?_
  refine lv_dup2_11 hx hb dX6_shifts_26 rfl rfl ?_
  refine zi_iald hx hb hK hP 0 0 rfl rfl (j := b + 16 * sd + fr) rfl (by omega) (by omega) dX6_shifts_27 ?_
  refine zz_i (y := nI (dg own fr)) (hr9.1 fr (by omega)) ?_
  refine lv_iconst (v := 1) hx hb dX6_shifts_28 (by decide) ?_
  refine lv_isub hx hb dX6_shifts_29 ?_
  refine zz_i (y := nI (dg own fr - 1)) (pk_sub (a := dg own fr) (b := 1) (by omega)) ?_
  refine zi_iast hx hb hK hP hDD hS 0 0 rfl rfl (j := b + 16 * sd + fr) rfl (by omega) (by omega) dX6_shifts_30 (fun H locs hP hS => ?_)
  have hP : va_P (dC, dI) vwCl [(rx, .inl (cyI, N9, .inl (upd F (b + 16 * sd + fr) (nI (dg own fr - 1)))))] H := hP
  refine lv_aload_n hx hb dX6_shifts_31 rfl (lv_at hl 2 rfl) ?_
  refine lv_iload_n hx hb dX6_shifts_32 rfl (lv_at hl 3 rfl) ?_
  refine lv_bipush (v := 16) hx hb dX6_shifts_33 (by decide) ?_
  refine lv_iload_n hx hb dX6_shifts_35 rfl (lv_at hl 4 rfl) ?_
  refine lv_imul hx hb dX6_shifts_36 ?_
  refine zz_i (y := nI (16 * sd)) (pk_mul 16 sd) ?_
  refine lv_iadd hx hb dX6_shifts_37 ?_
  refine zz_i (y := nI (b + 16 * sd)) (nI_add b (16 * sd)) ?_
  refine lv_iload hx hb dX6_shifts_38 (lv_at hl 1 rfl) ?_
  refine lv_iadd hx hb dX6_shifts_40 ?_
  refine zz_i (y := nI (b + 16 * sd + (fr + mm))) (nI_add (b + 16 * sd) (fr + mm)) ?_
  refine lv_dup2_11 hx hb dX6_shifts_41 rfl rfl ?_
  refine zi_iald hx hb hK hP 0 0 rfl rfl (j := b + 16 * sd + (fr + mm)) rfl (by omega) (by omega) dX6_shifts_42 ?_
  refine zz_i (y := nI (dg own (fr + mm))) (by rw [pk_un (by omega)]; exact hr9.1 (fr + mm) (by omega)) ?_
  refine lv_iconst (v := 1) hx hb dX6_shifts_43 (by decide) ?_
  refine lv_iadd hx hb dX6_shifts_44 ?_
  refine zz_i (y := nI (dg own (fr + mm) + 1)) (nI_add (dg own (fr + mm)) 1) ?_
  refine zi_iast hx hb hK hP hDD hS 0 0 rfl rfl (j := b + 16 * sd + (fr + mm)) rfl (by omega) (by omega) dX6_shifts_45 (fun H locs hP hS => ?_)
  have hP : va_P (dC, dI) vwCl [(rx, .inl (cyI, N9, .inl (upd (upd F (b + 16 * sd + fr) (nI (dg own fr - 1))) (b + 16 * sd + (fr + mm)) (nI (dg own (fr + mm) + 1)))))] H := hP
  refine lv_iload hx hb dX6_shifts_46 (lv_at hl 1 rfl) ?_
  refine zro_i (va_runS (As := [.int (nI (fr + mm))]) (rest := []) ⟨hx, hb, hml, hown, hts⟩ (c_X6_isShared l (fr + mm) (by omega)) (va_cwS 1 hts gX6_shifts_X6_isShared rfl rfl rfl (by decide +kernel) ⟨Nat.le_of_ble_eq_true rfl, Nat.le_of_ble_eq_true rfl⟩) zPu rfl rfl hl.1 rfl (lv_room (Nat.le_of_ble_eq_true rfl)) dX6_shifts_48 ⟨Nat.zero_le _, Nat.zero_le _⟩) hP hS (fun H locs hP hS => ?_)
  refine lv_if_eq (tgt := 68) hx hb dX6_shifts_51 (by decide) (fun c_51 => ?_) (fun c_51 => ?_)
  · skip
    have c_51 := bI_0.mp c_51
    refine lv_iconst (v := 0) hx hb dX6_shifts_68 (by decide) ?_
    refine lv_istore (lv' := [(7, .int 0), (6, .int (nI (b + 16 - (16 * sd)))), (5, .int (nI (fr + mm))), (0, .ref rx), (1, .int (nI b)), (2, .int (nI sd)), (3, .int (nI fr)), (4, .int (nI mm))]) hx hb dX6_shifts_69 hl (by decide) rfl (fun ls hl => ?_)
    refine lv_aload_n hx hb dX6_shifts_71 rfl (lv_at hl 3 rfl) ?_
    refine lv_iload hx hb dX6_shifts_72 (lv_at hl 1 rfl) ?_
    refine lv_iload hx hb dX6_shifts_74 (lv_at hl 2 rfl) ?_
    refine lv_iadd hx hb dX6_shifts_76 ?_
    refine zz_i (y := nI (b + 16 - (16 * sd) + (fr + mm))) (nI_add (b + 16 - (16 * sd)) (fr + mm)) ?_
    refine lv_dup2_11 hx hb dX6_shifts_77 rfl rfl ?_
    refine zi_iald hx hb hK hP 0 0 rfl rfl (j := b + 16 - (16 * sd) + (fr + mm)) rfl (by omega) (by omega) dX6_shifts_78 ?_
    refine zz_i (y := nI (dg oth (fr + mm))) (by rw [pk_un (by omega), pk_un (by omega), show b + 16 - 16 * sd + (fr + mm) = b + 16 * (1 - sd) + (fr + mm) by omega]; exact hr9.2 (fr + mm) (by omega)) ?_
    refine lv_iload hx hb dX6_shifts_79 (lv_at hl 0 rfl) ?_
    refine lv_isub hx hb dX6_shifts_81 ?_
    refine zz_i (y := nI (dg oth (fr + mm) - 0)) (pk_sub (a := dg oth (fr + mm)) (b := 0) (by omega)) ?_
    refine zi_iast hx hb hK hP hDD hS 0 0 rfl rfl (j := b + 16 - (16 * sd) + (fr + mm)) rfl (by omega) (by omega) dX6_shifts_82 (fun H locs hP hS => ?_)
    have hP : va_P (dC, dI) vwCl [(rx, .inl (cyI, N9, .inl (upd (upd (upd F (b + 16 * sd + fr) (nI (dg own fr - 1))) (b + 16 * sd + (fr + mm)) (nI (dg own (fr + mm) + 1))) (b + 16 - (16 * sd) + (fr + mm)) (nI (dg oth (fr + mm) - 0)))))] H := hP
    refine lv_aload_n hx hb dX6_shifts_83 rfl (lv_at hl 3 rfl) ?_
    refine lv_iload hx hb dX6_shifts_84 (lv_at hl 1 rfl) ?_
    refine lv_dup2_11 hx hb dX6_shifts_86 rfl rfl ?_
    refine zi_iald hx hb hK hP 0 0 rfl rfl (j := b + 16 - (16 * sd)) rfl (by omega) (by omega) dX6_shifts_87 ?_
    refine zz_i (y := nI (dg oth 0)) (by rw [pk_un (by omega), pk_un (by omega), pk_un (by omega), show b + 16 - 16 * sd = b + 16 * (1 - sd) + 0 by omega]; exact hr9.2 0 (by omega)) ?_
    refine lv_iload hx hb dX6_shifts_88 (lv_at hl 0 rfl) ?_
    refine lv_iadd hx hb dX6_shifts_90 ?_
    refine zz_i (y := nI (dg oth 0 + 0)) (nI_add (dg oth 0) 0) ?_
    refine zi_iast hx hb hK hP hDD hS 0 0 rfl rfl (j := b + 16 - (16 * sd)) rfl (by omega) (by omega) dX6_shifts_91 (fun H locs hP hS => ?_)
    have hP : va_P (dC, dI) vwCl [(rx, .inl (cyI, N9, .inl (upd (upd (upd (upd F (b + 16 * sd + fr) (nI (dg own fr - 1))) (b + 16 * sd + (fr + mm)) (nI (dg own (fr + mm) + 1))) (b + 16 - (16 * sd) + (fr + mm)) (nI (dg oth (fr + mm) - 0))) (b + 16 - (16 * sd)) (nI (dg oth 0 + 0)))))] H := hP
    refine lv_iload hx hb dX6_shifts_92 (lv_at hl 0 rfl) ?_
    exact W.iret (v := 0) hx hb hr (fun t ht hW => ⟨⟨_, _, rfl, ⟨bI_f (ztk_n1 c_51), z_shift (c := 0) hsd hr9 hO hQ hd0 (by omega) hto (Or.inr ⟨rfl, ztk_n1 c_51⟩)⟩, zh ht hP⟩, hS.F ht⟩) hS.2.2 dX6_shifts_94
  · skip
    have c_51 := bI_1.mp c_51
    refine lv_aload_n hx hb dX6_shifts_54 rfl (lv_at hl 2 rfl) ?_
    refine lv_iload hx hb dX6_shifts_55 (lv_at hl 0 rfl) ?_
    refine lv_iload hx hb dX6_shifts_57 (lv_at hl 1 rfl) ?_
    refine lv_iadd hx hb dX6_shifts_59 ?_
    refine zz_i (y := nI (b + 16 - (16 * sd) + (fr + mm))) (nI_add (b + 16 - (16 * sd)) (fr + mm)) ?_
    refine zi_iald hx hb hK hP 0 0 rfl rfl (j := b + 16 - (16 * sd) + (fr + mm)) rfl (by omega) (by omega) dX6_shifts_60 ?_
    refine zz_i (y := nI (dg oth (fr + mm))) (by rw [pk_un (by omega), pk_un (by omega), show b + 16 - 16 * sd + (fr + mm) = b + 16 * (1 - sd) + (fr + mm) by omega]; exact hr9.2 (fr + mm) (by omega)) ?_
    refine lv_if_le (tgt := 68) hx hb dX6_shifts_61 (by decide) (fun c_61 => ?_) (fun c_61 => ?_)
    · skip
      have c_61 : (dg oth (fr + mm)) ≤ 0 := (nI_leI (a := dg oth (fr + mm)) (b := 0) (by omega) (by omega)).mp c_61
      refine lv_iconst (v := 0) hx hb dX6_shifts_68 (by decide) ?_
      refine lv_istore (lv' := [(7, .int 0), (6, .int (nI (b + 16 - (16 * sd)))), (5, .int (nI (fr + mm))), (0, .ref rx), (1, .int (nI b)), (2, .int (nI sd)), (3, .int (nI fr)), (4, .int (nI mm))]) hx hb dX6_shifts_69 hl (by decide) rfl (fun ls hl => ?_)
      refine lv_aload_n hx hb dX6_shifts_71 rfl (lv_at hl 3 rfl) ?_
      refine lv_iload hx hb dX6_shifts_72 (lv_at hl 1 rfl) ?_
      refine lv_iload hx hb dX6_shifts_74 (lv_at hl 2 rfl) ?_
      refine lv_iadd hx hb dX6_shifts_76 ?_
      refine zz_i (y := nI (b + 16 - (16 * sd) + (fr + mm))) (nI_add (b + 16 - (16 * sd)) (fr + mm)) ?_
      refine lv_dup2_11 hx hb dX6_shifts_77 rfl rfl ?_
      refine zi_iald hx hb hK hP 0 0 rfl rfl (j := b + 16 - (16 * sd) + (fr + mm)) rfl (by omega) (by omega) dX6_shifts_78 ?_
      refine zz_i (y := nI (dg oth (fr + mm))) (by rw [pk_un (by omega), pk_un (by omega), show b + 16 - 16 * sd + (fr + mm) = b + 16 * (1 - sd) + (fr + mm) by omega]; exact hr9.2 (fr + mm) (by omega)) ?_
      refine lv_iload hx hb dX6_shifts_79 (lv_at hl 0 rfl) ?_
      refine lv_isub hx hb dX6_shifts_81 ?_
      refine zz_i (y := nI (dg oth (fr + mm) - 0)) (pk_sub (a := dg oth (fr + mm)) (b := 0) (by omega)) ?_
      refine zi_iast hx hb hK hP hDD hS 0 0 rfl rfl (j := b + 16 - (16 * sd) + (fr + mm)) rfl (by omega) (by omega) dX6_shifts_82 (fun H locs hP hS => ?_)
      have hP : va_P (dC, dI) vwCl [(rx, .inl (cyI, N9, .inl (upd (upd (upd F (b + 16 * sd + fr) (nI (dg own fr - 1))) (b + 16 * sd + (fr + mm)) (nI (dg own (fr + mm) + 1))) (b + 16 - (16 * sd) + (fr + mm)) (nI (dg oth (fr + mm) - 0)))))] H := hP
      refine lv_aload_n hx hb dX6_shifts_83 rfl (lv_at hl 3 rfl) ?_
      refine lv_iload hx hb dX6_shifts_84 (lv_at hl 1 rfl) ?_
      refine lv_dup2_11 hx hb dX6_shifts_86 rfl rfl ?_
      refine zi_iald hx hb hK hP 0 0 rfl rfl (j := b + 16 - (16 * sd)) rfl (by omega) (by omega) dX6_shifts_87 ?_
      refine zz_i (y := nI (dg oth 0)) (by rw [pk_un (by omega), pk_un (by omega), pk_un (by omega), show b + 16 - 16 * sd = b + 16 * (1 - sd) + 0 by omega]; exact hr9.2 0 (by omega)) ?_
      refine lv_iload hx hb dX6_shifts_88 (lv_at hl 0 rfl) ?_
      refine lv_iadd hx hb dX6_shifts_90 ?_
      refine zz_i (y := nI (dg oth 0 + 0)) (nI_add (dg oth 0) 0) ?_
      refine zi_iast hx hb hK hP hDD hS 0 0 rfl rfl (j := b + 16 - (16 * sd)) rfl (by omega) (by omega) dX6_shifts_91 (fun H locs hP hS => ?_)
      have hP : va_P (dC, dI) vwCl [(rx, .inl (cyI, N9, .inl (upd (upd (upd (upd F (b + 16 * sd + fr) (nI (dg own fr - 1))) (b + 16 * sd + (fr + mm)) (nI (dg own (fr + mm) + 1))) (b + 16 - (16 * sd) + (fr + mm)) (nI (dg oth (fr + mm) - 0))) (b + 16 - (16 * sd)) (nI (dg oth 0 + 0)))))] H := hP
      refine lv_iload hx hb dX6_shifts_92 (lv_at hl 0 rfl) ?_
      exact W.iret (v := 0) hx hb hr (fun t ht hW => ⟨⟨_, _, rfl, ⟨bI_f (ztk_n2 c_61), z_shift (c := 0) hsd hr9 hO hQ hd0 (by omega) hto (Or.inr ⟨rfl, ztk_n2 c_61⟩)⟩, zh ht hP⟩, hS.F ht⟩) hS.2.2 dX6_shifts_94
    · skip
      have c_61 : ¬ (dg oth (fr + mm)) ≤ 0 := fun h9 => c_61 ((nI_leI (a := dg oth (fr + mm)) (b := 0) (by omega) (by omega)).mpr h9)
      refine lv_iconst (v := 1) hx hb dX6_shifts_64 (by decide) ?_
      refine lv_goto (tgt := 69) hx hb dX6_shifts_65 (by decide) ?_
      refine lv_istore (lv' := [(7, .int 1), (6, .int (nI (b + 16 - (16 * sd)))), (5, .int (nI (fr + mm))), (0, .ref rx), (1, .int (nI b)), (2, .int (nI sd)), (3, .int (nI fr)), (4, .int (nI mm))]) hx hb dX6_shifts_69 hl (by decide) rfl (fun ls hl => ?_)
      refine lv_aload_n hx hb dX6_shifts_71 rfl (lv_at hl 3 rfl) ?_
      refine lv_iload hx hb dX6_shifts_72 (lv_at hl 1 rfl) ?_
      refine lv_iload hx hb dX6_shifts_74 (lv_at hl 2 rfl) ?_
      refine lv_iadd hx hb dX6_shifts_76 ?_
      refine zz_i (y := nI (b + 16 - (16 * sd) + (fr + mm))) (nI_add (b + 16 - (16 * sd)) (fr + mm)) ?_
      refine lv_dup2_11 hx hb dX6_shifts_77 rfl rfl ?_
      refine zi_iald hx hb hK hP 0 0 rfl rfl (j := b + 16 - (16 * sd) + (fr + mm)) rfl (by omega) (by omega) dX6_shifts_78 ?_
      refine zz_i (y := nI (dg oth (fr + mm))) (by rw [pk_un (by omega), pk_un (by omega), show b + 16 - 16 * sd + (fr + mm) = b + 16 * (1 - sd) + (fr + mm) by omega]; exact hr9.2 (fr + mm) (by omega)) ?_
      refine lv_iload hx hb dX6_shifts_79 (lv_at hl 0 rfl) ?_
      refine lv_isub hx hb dX6_shifts_81 ?_
      refine zz_i (y := nI (dg oth (fr + mm) - 1)) (pk_sub (a := dg oth (fr + mm)) (b := 1) (by omega)) ?_
      refine zi_iast hx hb hK hP hDD hS 0 0 rfl rfl (j := b + 16 - (16 * sd) + (fr + mm)) rfl (by omega) (by omega) dX6_shifts_82 (fun H locs hP hS => ?_)
      have hP : va_P (dC, dI) vwCl [(rx, .inl (cyI, N9, .inl (upd (upd (upd F (b + 16 * sd + fr) (nI (dg own fr - 1))) (b + 16 * sd + (fr + mm)) (nI (dg own (fr + mm) + 1))) (b + 16 - (16 * sd) + (fr + mm)) (nI (dg oth (fr + mm) - 1)))))] H := hP
      refine lv_aload_n hx hb dX6_shifts_83 rfl (lv_at hl 3 rfl) ?_
      refine lv_iload hx hb dX6_shifts_84 (lv_at hl 1 rfl) ?_
      refine lv_dup2_11 hx hb dX6_shifts_86 rfl rfl ?_
      refine zi_iald hx hb hK hP 0 0 rfl rfl (j := b + 16 - (16 * sd)) rfl (by omega) (by omega) dX6_shifts_87 ?_
      refine zz_i (y := nI (dg oth 0)) (by rw [pk_un (by omega), pk_un (by omega), pk_un (by omega), show b + 16 - 16 * sd = b + 16 * (1 - sd) + 0 by omega]; exact hr9.2 0 (by omega)) ?_
      refine lv_iload hx hb dX6_shifts_88 (lv_at hl 0 rfl) ?_
      refine lv_iadd hx hb dX6_shifts_90 ?_
      refine zz_i (y := nI (dg oth 0 + 1)) (nI_add (dg oth 0) 1) ?_
      refine zi_iast hx hb hK hP hDD hS 0 0 rfl rfl (j := b + 16 - (16 * sd)) rfl (by omega) (by omega) dX6_shifts_91 (fun H locs hP hS => ?_)
      have hP : va_P (dC, dI) vwCl [(rx, .inl (cyI, N9, .inl (upd (upd (upd (upd F (b + 16 * sd + fr) (nI (dg own fr - 1))) (b + 16 * sd + (fr + mm)) (nI (dg own (fr + mm) + 1))) (b + 16 - (16 * sd) + (fr + mm)) (nI (dg oth (fr + mm) - 1))) (b + 16 - (16 * sd)) (nI (dg oth 0 + 1)))))] H := hP
      refine lv_iload hx hb dX6_shifts_92 (lv_at hl 0 rfl) ?_
      exact W.iret (v := 1) hx hb hr (fun t ht hW => ⟨⟨_, _, rfl, ⟨bI_t (ztk_y c_51 c_61), z_shift (c := 1) hsd hr9 hO hQ hd0 (by omega) hto (Or.inl ⟨rfl, ztk_y c_51 c_61⟩)⟩, zh ht hP⟩, hS.F ht⟩) hS.2.2 dX6_shifts_94

set_option maxHeartbeats 4000000 in
set_option maxRecDepth 100000 in
theorem c_X6_goesOn (l : Launch) (dC : Nat → ClassId) (dI : Nat → Nat → Nat) (cyI cyJ : ClassId) (k : Nat) (bx bl ba bt bg be bf bw bs bm bn bb bu bh : Nat) (thr sI tI wI cI : Int32) (u0 : zU) (e9 h sd own oth mm f0 : Nat) (hh : h < 4) (hsd : sd ≤ 1) (hmm : mm ≤ 4) (hf9 : f0 ≤ 15) (hO : zok k own) (hQ : zok k oth) (hrow : zRow u0.1 (32 * h) sd own oth) (hS0 : u0.2.1 h = nI sd) (hM0 : u0.2.2.1 h = nI mm) (hN0 : u0.2.2.2.1 h = nI f0) (hst0 : zGo (fun fr => zBM (zV k e9) own oth fr mm) own oth mm f0 (u0.2.2.2.2.1 h)) (hnd : [bx, bw, bs, bm, bn, bb, bu].Nodup) : Met l yX6_goesOn wsX6_goesOn ({ frames := 3, cells := 0, slots := 0, locals := 69 }) (zPc [.ref bx, .int (nI h)] (dC, dI) vwCl [(cyI, .int), (cyJ, .long)] [(bx, .inr (3, [.int thr, .int (nI k), .int sI, .int tI, .int wI, .int cI, .ref bl, .ref ba, .ref bt, .ref bg, .ref be, .ref bf, .ref bw, .ref bs, .ref bm, .ref bn, .ref bb, .ref bu, .ref bh])), (bw, .inl (cyI, 160, .inl u0.1)), (bs, .inl (cyI, 5, .inl u0.2.1)), (bm, .inl (cyI, 5, .inl u0.2.2.1)), (bn, .inl (cyI, 5, .inl u0.2.2.2.1)), (bb, .inl (cyI, 5, .inl u0.2.2.2.2.1)), (bu, .inl (cyJ, 5, .inr (.inl u0.2.2.2.2.2)))] (fun _ => True)) (va_Qi (fun (r : Int32) (u : zU) => zKp h u0 u ∧ zPo k e9 h sd own oth mm f0 (u0.2.2.2.2.1 h) r u) (fun (u : zU) t => va_P (dC, dI) vwCl ([(bx, .inr (3, [.int thr, .int (nI k), .int sI, .int tI, .int wI, .int cI, .ref bl, .ref ba, .ref bt, .ref bg, .ref be, .ref bf, .ref bw, .ref bs, .ref bm, .ref bn, .ref bb, .ref bu, .ref bh])), (bw, .inl (cyI, 160, .inl u.1)), (bs, .inl (cyI, 5, .inl u.2.1)), (bm, .inl (cyI, 5, .inl u.2.2.1)), (bn, .inl (cyI, 5, .inl u.2.2.2.1)), (bb, .inl (cyI, 5, .inl u.2.2.2.2.1)), (bu, .inl (cyJ, 5, .inr (.inl u.2.2.2.2.2)))]) t.heap) (zA [bx, bw, bs, bm, bn, bb, bu])) 0 0 (zA [bx, bw, bs, bm, bn, bb, bu]) := by
  refine Met.ofW (cc := cX6_goesOn) (maxL := 6) (ret := (some .boolean)) (by decide) rfl ?_
  intro p e s m args below meth c s₁ B hml hv
  obtain ⟨rfl, hP, hK, hX⟩ := hv
  have hx := B.exec
  have hb := B.bytes
  have hr := B.returns
  have hts := atoms_spec (ws := wsX6_goesOn) B.pre
  have hown : s.vm.findClass RX6 = some m.cls := findClass_of_methodNamed B.named
  have hlocks := B.notSynchronized
  have hinX6 : ∀ w ∈ wsX60, w ∈ wsX6_goesOn := by decide +kernel
  have hl := lv_entry ([.ref bx, .int (nI h)]) (n := 6) (Nat.le_of_ble_eq_true rfl)
  rw [lg_entry_eq]
  generalize (lg_sl ([.ref bx, .int (nI h)]) ++ List.replicate (6 - (lg_sl ([.ref bx, .int (nI h)])).length) Slot.unset).toArray = ls at hl ⊢
  have hl : lv_has ls 6 [(0, .ref bx), (1, .int (nI h))] := hl
  have hS : va_S (zA [bx, bw, bs, bm, bn, bb, bu]) s.heap s.heap [] := va_S.rf
  have hDD : zD (zA [bx, bw, bs, bm, bn, bb, bu]) [bx, bw, bs, bm, bn, bb, bu] := ⟨hnd, fun _ h => h⟩
  generalize hQe : MQ below _ _ _ _ _ _ = Q
  have hgl : ∀ a, (fun fr => zBM (zV k e9) own oth fr mm) a ≤ 1000000000 := fun a => zBM_le (zV_le k e9) _ _ _ _
  refine lv_bipush (v := 32) hx hb dX6_goesOn_0 (by decide) ?_
  refine lv_iload_n hx hb dX6_goesOn_2 rfl (lv_at hl 1 rfl) ?_
  refine lv_imul hx hb dX6_goesOn_3 ?_
  refine zz_i (y := nI (32 * h)) (pk_mul 32 h) ?_
  refine lv_istore_n (lv' := [(2, .int (nI (32 * h))), (0, .ref bx), (1, .int (nI h))]) hx hb dX6_goesOn_4 rfl hl (by decide) rfl (fun ls hl => ?_)
  refine lv_aload_n hx hb dX6_goesOn_5 rfl (lv_at hl 1 rfl) ?_
  refine va_get (D := (dC, dI)) (ci := 3) (v := .ref bs) (C := RX6) (T := TX6) (N := 19) hx hb hts hinX6 hown hK hP 0 rfl rfl 13 (by decide) (hts (.fieldLink RX6 38 "RoyalUrTableModel" "sides" "[I") (List.mem_of_getElem? (i := 1) rfl)) (fun _ h9 => h9) rfl dX6_goesOn_6 ?_
  refine lv_iload_n hx hb dX6_goesOn_9 rfl (lv_at hl 2 rfl) ?_
  refine zi_iald hx hb hK hP 2 0 rfl rfl (j := h) rfl (by omega) (by decide) dX6_goesOn_10 ?_
  refine zz_i (y := nI sd) hS0 ?_
  refine lv_istore_n (lv' := [(3, .int (nI sd)), (2, .int (nI (32 * h))), (0, .ref bx), (1, .int (nI h))]) hx hb dX6_goesOn_11 rfl hl (by decide) rfl (fun ls hl => ?_)
  have lp : ∀ (n9 : Nat) (f : Nat) (gW : Nat → Int32) (gN : Nat → Int32) (gB : Nat → Int32), f ≤ 15 → f0 ≤ f → (∀ q, q < 32 * h + 32 → gW q = u0.1 q) → (∀ j, j < h → gN j = u0.2.2.2.1 j) → (∀ j, j < h → gB j = u0.2.2.2.2.1 j) → gN h = nI f → zGs k e9 own oth mm f f0 (gB h) (u0.2.2.2.2.1 h) → 15 - f < n9 → ∀ (H : Heap) (locs : List Loc), va_P (dC, dI) vwCl [(bx, .inr (3, [.int thr, .int (nI k), .int sI, .int tI, .int wI, .int cI, .ref bl, .ref ba, .ref bt, .ref bg, .ref be, .ref bf, .ref bw, .ref bs, .ref bm, .ref bn, .ref bb, .ref bu, .ref bh])), (bw, .inl (cyI, 160, .inl gW)), (bs, .inl (cyI, 5, .inl u0.2.1)), (bm, .inl (cyI, 5, .inl u0.2.2.1)), (bn, .inl (cyI, 5, .inl gN)), (bb, .inl (cyI, 5, .inl gB)), (bu, .inl (cyJ, 5, .inr (.inl u0.2.2.2.2.2)))] H → va_S (zA [bx, bw, bs, bm, bn, bb, bu]) s.heap H locs → ∀ ls : Array Slot, lv_has ls 6 [(3, .int (nI sd)), (2, .int (nI (32 * h))), (0, .ref bx), (1, .int (nI h))] → W p l e (headSpec wsX6_goesOn ({ frames := 3, cells := 0, slots := 0, locals := 69 })).room s m ([.ref bx, .int (nI h)] : List Value).toArray below meth c H locs 0 0 Q (F0 m 12 ls []) := by
    intro n9
    induction n9 with
    | zero => intro f gW gN gB hf15 hf0 hgW hgN hgB hNh hst hm9; exact absurd hm9 (Nat.not_lt_zero _)
    | succ n9 ih12 =>
      intro f gW gN gB hf15 hf0 hgW hgN hgB hNh hst hm9 H locs hP hS ls hl
      refine lv_aload_n hx hb dX6_goesOn_12 rfl (lv_at hl 2 rfl) ?_
      refine va_get (D := (dC, dI)) (ci := 3) (v := .ref bn) (C := RX6) (T := TX6) (N := 19) hx hb hts hinX6 hown hK hP 0 rfl rfl 15 (by decide) (hts (.fieldLink RX6 44 "RoyalUrTableModel" "next" "[I") (List.mem_of_getElem? (i := 2) rfl)) (fun _ h9 => h9) rfl dX6_goesOn_13 ?_
      refine lv_iload_n hx hb dX6_goesOn_16 rfl (lv_at hl 3 rfl) ?_
      refine zi_iald hx hb hK hP 4 0 rfl rfl (j := h) rfl (by omega) (by decide) dX6_goesOn_17 ?_
      refine zz_i (y := nI f) hNh ?_
      refine lv_bipush (v := 15) hx hb dX6_goesOn_18 (by decide) ?_
      refine lv_icmp_ge (tgt := 154) hx hb dX6_goesOn_20 (by decide) (fun c_20 => ?_) (fun c_20 => ?_)
      · skip
        have c_20 : 15 ≤ f := (nI_leI (a := 15) (b := f) (by omega) (by omega)).mp c_20
        refine lv_aload_n hx hb dX6_goesOn_154 rfl (lv_at hl 2 rfl) ?_
        refine va_get (D := (dC, dI)) (ci := 3) (v := .ref bb) (C := RX6) (T := TX6) (N := 19) hx hb hts hinX6 hown hK hP 0 rfl rfl 16 (by decide) (hts (.fieldLink RX6 47 "RoyalUrTableModel" "best" "[I") (List.mem_of_getElem? (i := 6) rfl)) (fun _ h9 => h9) rfl dX6_goesOn_155 ?_
        refine lv_iload_n hx hb dX6_goesOn_158 rfl (lv_at hl 3 rfl) ?_
        refine zi_iald hx hb hK hP 5 0 rfl rfl (j := h) rfl (by omega) (by decide) dX6_goesOn_159 ?_
        refine lv_iconst (v := -1) hx hb dX6_goesOn_160 (by decide) ?_
        refine lv_icmp_ne (tgt := 181) hx hb dX6_goesOn_161 (by decide) (fun c_161 => ?_) (fun c_161 => ?_)
        · skip
          refine lv_iconst (v := 0) hx hb dX6_goesOn_181 (by decide) ?_
          subst hQe
          exact W.zret (v := 0) hx hb hr rfl (fun t ht hW => ⟨⟨_, (gW, u0.2.1, u0.2.2.1, gN, gB, u0.2.2.2.2.2), rfl, ⟨⟨⟨fun q hq => hgW q (by omega), fun j hj => ⟨rfl, rfl, hgN j hj, hgB j hj, rfl⟩⟩, hgW, rfl, rfl, rfl⟩, zPo_c (f := f) (by omega) hst c_161⟩, zh ht hP⟩, hS.F ht⟩) hS.2.2 dX6_goesOn_182
        · skip
          refine lv_aload_n hx hb dX6_goesOn_164 rfl (lv_at hl 2 rfl) ?_
          refine lv_iload_n hx hb dX6_goesOn_165 rfl (lv_at hl 3 rfl) ?_
          refine zrw_v (w1 := fun u : Nat → Int32 => [(bx, .inr (3, [.int thr, .int (nI k), .int sI, .int tI, .int wI, .int cI, .ref bl, .ref ba, .ref bt, .ref bg, .ref be, .ref bf, .ref bw, .ref bs, .ref bm, .ref bn, .ref bb, .ref bu, .ref bh])), (bw, .inl (cyI, 160, .inl u))]) (al := [bx, bw]) (va_runV (As := [.int (nI h)]) (rest := []) ⟨hx, hb, hml, hown, hts⟩ (c_X6_copies l dC dI cyI cyJ k bx bl ba bt bg be bf bw bs bm bn bb bu bh thr sI tI wI cI gW h (by omega) (z_nd hDD.1 [0, 1] (by decide) rfl)) (cwV 1 hts gX6_goesOn_X6_copies rfl rfl rfl (by decide +kernel) ⟨Nat.le_of_ble_eq_true rfl, Nat.le_of_ble_eq_true rfl⟩) (zPc_V (ci := 3) (q0 := 0) zB_T hP hK rfl rfl [0, 1] rfl (fun _ _ _ => trivial)) rfl rfl hl.1 rfl (lv_room (Nat.le_of_ble_eq_true rfl)) dX6_goesOn_166 ⟨Nat.zero_le _, Nat.zero_le _⟩) hP hDD hS [0, 1] rfl (fun _ => rfl) (fun u_166 H locs hw_166 hP hS => ?_)
          have hP : va_P (dC, dI) vwCl [(bx, .inr (3, [.int thr, .int (nI k), .int sI, .int tI, .int wI, .int cI, .ref bl, .ref ba, .ref bt, .ref bg, .ref be, .ref bf, .ref bw, .ref bs, .ref bm, .ref bn, .ref bb, .ref bu, .ref bh])), (bw, .inl (cyI, 160, .inl u_166)), (bs, .inl (cyI, 5, .inl u0.2.1)), (bm, .inl (cyI, 5, .inl u0.2.2.1)), (bn, .inl (cyI, 5, .inl gN)), (bb, .inl (cyI, 5, .inl gB)), (bu, .inl (cyJ, 5, .inr (.inl u0.2.2.2.2.2)))] H := hP
          refine lv_aload_n hx hb dX6_goesOn_169 rfl (lv_at hl 2 rfl) ?_
          refine lv_iload_n hx hb dX6_goesOn_170 rfl (lv_at hl 3 rfl) ?_
          refine lv_iconst (v := 1) hx hb dX6_goesOn_171 (by decide) ?_
          refine lv_iadd hx hb dX6_goesOn_172 ?_
          refine zz_i (y := nI (h + 1)) (nI_add h 1) ?_
          refine lv_iconst (v := 1) hx hb dX6_goesOn_173 (by decide) ?_
          refine lv_iload_n hx hb dX6_goesOn_174 rfl (lv_at hl 0 rfl) ?_
          refine lv_isub hx hb dX6_goesOn_175 ?_
          refine zz_i (y := nI (1 - sd)) (pk_sub (a := 1) (b := sd) (by omega)) ?_
          refine zrw_v (w1 := fun _ : Unit => [(bx, .inr (3, [.int thr, .int (nI k), .int sI, .int tI, .int wI, .int cI, .ref bl, .ref ba, .ref bt, .ref bg, .ref be, .ref bf, .ref bw, .ref bs, .ref bm, .ref bn, .ref bb, .ref bu, .ref bh])), (bs, .inl (cyI, 5, .inl (upd u0.2.1 (h + 1) (nI (1 - sd))))), (bm, .inl (cyI, 5, .inl (upd u0.2.2.1 (h + 1) 0))), (bn, .inl (cyI, 5, .inl (upd gN (h + 1) 0))), (bb, .inl (cyI, 5, .inl (upd gB (h + 1) (-1)))), (bu, .inl (cyJ, 5, .inr (.inl (vp_updL u0.2.2.2.2.2 (h + 1) 0))))]) (al := [bx, bs, bm, bn, bb, bu]) (va_runV (As := [.int (nI (h + 1)), .int (nI (1 - sd))]) (rest := []) ⟨hx, hb, hml, hown, hts⟩ (c_X6_enters l dC dI cyI cyJ k bx bl ba bt bg be bf bw bs bm bn bb bu bh thr sI tI wI cI u0.2.1 u0.2.2.1 gN gB u0.2.2.2.2.2 (h + 1) (by omega) (nI (1 - sd)) (z_nd hDD.1 [0, 2, 3, 4, 5, 6] (by decide) rfl)) (cwV 2 hts gX6_goesOn_X6_enters rfl rfl rfl (by decide +kernel) ⟨Nat.le_of_ble_eq_true rfl, Nat.le_of_ble_eq_true rfl⟩) (zPc_V (ci := 3) (q0 := 0) zB_T hP hK rfl rfl [0, 2, 3, 4, 5, 6] rfl (fun _ _ _ => trivial)) rfl rfl hl.1 rfl (lv_room (Nat.le_of_ble_eq_true rfl)) dX6_goesOn_176 ⟨Nat.zero_le _, Nat.zero_le _⟩) hP hDD hS [0, 2, 3, 4, 5, 6] rfl (fun _ => rfl) (fun u_176 H locs hw_176 hP hS => ?_)
          have hP : va_P (dC, dI) vwCl [(bx, .inr (3, [.int thr, .int (nI k), .int sI, .int tI, .int wI, .int cI, .ref bl, .ref ba, .ref bt, .ref bg, .ref be, .ref bf, .ref bw, .ref bs, .ref bm, .ref bn, .ref bb, .ref bu, .ref bh])), (bw, .inl (cyI, 160, .inl u_166)), (bs, .inl (cyI, 5, .inl (upd u0.2.1 (h + 1) (nI (1 - sd))))), (bm, .inl (cyI, 5, .inl (upd u0.2.2.1 (h + 1) 0))), (bn, .inl (cyI, 5, .inl (upd gN (h + 1) 0))), (bb, .inl (cyI, 5, .inl (upd gB (h + 1) (-1)))), (bu, .inl (cyJ, 5, .inr (.inl (vp_updL u0.2.2.2.2.2 (h + 1) 0))))] H := hP
          refine lv_iconst (v := 1) hx hb dX6_goesOn_179 (by decide) ?_
          subst hQe
          exact W.zret (v := 1) hx hb hr rfl (fun t ht hW => ⟨⟨_, (u_166, upd u0.2.1 (h + 1) (nI (1 - sd)), upd u0.2.2.1 (h + 1) 0, upd gN (h + 1) 0, upd gB (h + 1) (-1), vp_updL u0.2.2.2.2.2 (h + 1) 0), rfl, ⟨zkp_mk hgN hgB (fun q hq => (hw_166.1 q hq).trans (hgW q hq)), zPo_b (f := f) (by omega) hst c_161 ((pk_un (by omega)).trans hNh) (pk_un (by omega)) (zent_mk (zRow_cp (by omega) ((zRow_cg hsd hrow (fun q _ h2 => hgW q (by omega))).sw hsd) hw_166.2))⟩, zh ht hP⟩, hS.F ht⟩) hS.2.2 dX6_goesOn_180
      · skip
        have c_20 : ¬ 15 ≤ f := fun h9 => c_20 ((nI_leI (a := 15) (b := f) (by omega) (by omega)).mpr h9)
        refine lv_aload_n hx hb dX6_goesOn_23 rfl (lv_at hl 2 rfl) ?_
        refine va_get (D := (dC, dI)) (ci := 3) (v := .ref bn) (C := RX6) (T := TX6) (N := 19) hx hb hts hinX6 hown hK hP 0 rfl rfl 15 (by decide) (hts (.fieldLink RX6 44 "RoyalUrTableModel" "next" "[I") (List.mem_of_getElem? (i := 2) rfl)) (fun _ h9 => h9) rfl dX6_goesOn_24 ?_
        refine lv_iload_n hx hb dX6_goesOn_27 rfl (lv_at hl 3 rfl) ?_
        refine zi_iald hx hb hK hP 4 0 rfl rfl (j := h) rfl (by omega) (by decide) dX6_goesOn_28 ?_
        refine zz_i (y := nI f) hNh ?_
        refine lv_istore (lv' := [(4, .int (nI f)), (3, .int (nI sd)), (2, .int (nI (32 * h))), (0, .ref bx), (1, .int (nI h))]) hx hb dX6_goesOn_29 hl (by decide) rfl (fun ls hl => ?_)
        refine lv_aload_n hx hb dX6_goesOn_31 rfl (lv_at hl 3 rfl) ?_
        refine va_get (D := (dC, dI)) (ci := 3) (v := .ref bn) (C := RX6) (T := TX6) (N := 19) hx hb hts hinX6 hown hK hP 0 rfl rfl 15 (by decide) (hts (.fieldLink RX6 44 "RoyalUrTableModel" "next" "[I") (List.mem_of_getElem? (i := 2) rfl)) (fun _ h9 => h9) rfl dX6_goesOn_32 ?_
        refine lv_iload_n hx hb dX6_goesOn_35 rfl (lv_at hl 4 rfl) ?_
        refine lv_dup2_11 hx hb dX6_goesOn_36 rfl rfl ?_
        refine zi_iald hx hb hK hP 4 0 rfl rfl (j := h) rfl (by omega) (by decide) dX6_goesOn_37 ?_
        refine zz_i (y := nI f) hNh ?_
        refine lv_iconst (v := 1) hx hb dX6_goesOn_38 (by decide) ?_
        refine lv_iadd hx hb dX6_goesOn_39 ?_
        refine zz_i (y := nI (f + 1)) (nI_add f 1) ?_
        refine zi_iast hx hb hK hP hDD hS 4 0 rfl rfl (j := h) rfl (by omega) (by decide) dX6_goesOn_40 (fun H locs hP hS => ?_)
        have hP : va_P (dC, dI) vwCl [(bx, .inr (3, [.int thr, .int (nI k), .int sI, .int tI, .int wI, .int cI, .ref bl, .ref ba, .ref bt, .ref bg, .ref be, .ref bf, .ref bw, .ref bs, .ref bm, .ref bn, .ref bb, .ref bu, .ref bh])), (bw, .inl (cyI, 160, .inl gW)), (bs, .inl (cyI, 5, .inl u0.2.1)), (bm, .inl (cyI, 5, .inl u0.2.2.1)), (bn, .inl (cyI, 5, .inl (upd gN h (nI (f + 1))))), (bb, .inl (cyI, 5, .inl gB)), (bu, .inl (cyJ, 5, .inr (.inl u0.2.2.2.2.2)))] H := hP
        refine lv_aload_n hx hb dX6_goesOn_41 rfl (lv_at hl 3 rfl) ?_
        refine va_get (D := (dC, dI)) (ci := 3) (v := .ref bw) (C := RX6) (T := TX6) (N := 19) hx hb hts hinX6 hown hK hP 0 rfl rfl 12 (by decide) (hts (.fieldLink RX6 35 "RoyalUrTableModel" "walk" "[I") (List.mem_of_getElem? (i := 3) rfl)) (fun _ h9 => h9) rfl dX6_goesOn_42 ?_
        refine lv_iload_n hx hb dX6_goesOn_45 rfl (lv_at hl 2 rfl) ?_
        refine lv_iload_n hx hb dX6_goesOn_46 rfl (lv_at hl 1 rfl) ?_
        refine lv_iload hx hb dX6_goesOn_47 (lv_at hl 0 rfl) ?_
        refine lv_aload_n hx hb dX6_goesOn_49 rfl (lv_at hl 3 rfl) ?_
        refine va_get (D := (dC, dI)) (ci := 3) (v := .ref bm) (C := RX6) (T := TX6) (N := 19) hx hb hts hinX6 hown hK hP 0 rfl rfl 14 (by decide) (hts (.fieldLink RX6 41 "RoyalUrTableModel" "marks" "[I") (List.mem_of_getElem? (i := 4) rfl)) (fun _ h9 => h9) rfl dX6_goesOn_50 ?_
        refine lv_iload_n hx hb dX6_goesOn_53 rfl (lv_at hl 4 rfl) ?_
        refine zi_iald hx hb hK hP 3 0 rfl rfl (j := h) rfl (by omega) (by decide) dX6_goesOn_54 ?_
        refine zz_i (y := nI mm) hM0 ?_
        refine zro_i (va_runS (As := [.ref bw, .int (nI (32 * h)), .int (nI sd), .int (nI f), .int (nI mm)]) (rest := []) ⟨hx, hb, hml, hown, hts⟩ (c_X6_canMove l dC dI cyI cyJ bw 160 (by omega) gW (32 * h) sd own oth f mm (by omega) hsd (zRow_cg hsd hrow (fun q _ h2 => hgW q (by omega))) (by omega) hmm) (va_cwS 5 hts gX6_goesOn_X6_canMove rfl rfl rfl (by decide +kernel) ⟨Nat.le_of_ble_eq_true rfl, Nat.le_of_ble_eq_true rfl⟩) (zPc_S zB_T hP hK [1] rfl (fun _ _ _ => trivial)) rfl rfl hl.1 rfl (lv_room (Nat.le_of_ble_eq_true rfl)) dX6_goesOn_55 ⟨Nat.zero_le _, Nat.zero_le _⟩) hP hS (fun H locs hP hS => ?_)
        refine lv_if_eq (tgt := 151) hx hb dX6_goesOn_58 (by decide) (fun c_58 => ?_) (fun c_58 => ?_)
        · skip
          have c_58 := bI_0.mp c_58
          refine lv_goto (tgt := 12) hx hb dX6_goesOn_151 (by decide) ?_
          exact ih12 (f + 1) _ _ _ (by omega) (by omega) hgW (fun j hj => (pk_un (by omega)).trans (hgN j hj)) hgB pk_us (zGs_y (by omega) hst (fun h1 => zBI_n h1 c_58)) (by omega) _ _ hP hS _ (lv_sub hl [1, 2, 3, 4] rfl)
        · skip
          have c_58 := bI_1.mp c_58
          obtain ⟨hm0, hd0, hto⟩ := zcm_spec c_58
          have hO2 : zok k (zsh own f (f + mm)) := zok_sh hO hd0 (by omega) (by omega) (by omega)
          have hdk := zok_dg hO2 15 (by omega)
          have hk4 := hO2.1
          have hd15 : dg (zsh own f (f + mm)) 15 ≤ k := by have := dsum_mono (zsh own f (f + mm)) 16 15 (by omega); rw [hO2.2.2] at this; exact this
          refine lv_aload_n hx hb dX6_goesOn_61 rfl (lv_at hl 3 rfl) ?_
          refine lv_iload_n hx hb dX6_goesOn_62 rfl (lv_at hl 4 rfl) ?_
          refine zrw_v (w1 := fun u : Nat → Int32 => [(bx, .inr (3, [.int thr, .int (nI k), .int sI, .int tI, .int wI, .int cI, .ref bl, .ref ba, .ref bt, .ref bg, .ref be, .ref bf, .ref bw, .ref bs, .ref bm, .ref bn, .ref bb, .ref bu, .ref bh])), (bw, .inl (cyI, 160, .inl u))]) (al := [bx, bw]) (va_runV (As := [.int (nI h)]) (rest := []) ⟨hx, hb, hml, hown, hts⟩ (c_X6_copies l dC dI cyI cyJ k bx bl ba bt bg be bf bw bs bm bn bb bu bh thr sI tI wI cI gW h (by omega) (z_nd hDD.1 [0, 1] (by decide) rfl)) (cwV 1 hts gX6_goesOn_X6_copies rfl rfl rfl (by decide +kernel) ⟨Nat.le_of_ble_eq_true rfl, Nat.le_of_ble_eq_true rfl⟩) (zPc_V (ci := 3) (q0 := 0) zB_T hP hK rfl rfl [0, 1] rfl (fun _ _ _ => trivial)) rfl rfl hl.1 rfl (lv_room (Nat.le_of_ble_eq_true rfl)) dX6_goesOn_63 ⟨Nat.zero_le _, Nat.zero_le _⟩) hP hDD hS [0, 1] rfl (fun _ => rfl) (fun u_63 H locs hw_63 hP hS => ?_)
          have hP : va_P (dC, dI) vwCl [(bx, .inr (3, [.int thr, .int (nI k), .int sI, .int tI, .int wI, .int cI, .ref bl, .ref ba, .ref bt, .ref bg, .ref be, .ref bf, .ref bw, .ref bs, .ref bm, .ref bn, .ref bb, .ref bu, .ref bh])), (bw, .inl (cyI, 160, .inl u_63)), (bs, .inl (cyI, 5, .inl u0.2.1)), (bm, .inl (cyI, 5, .inl u0.2.2.1)), (bn, .inl (cyI, 5, .inl (upd gN h (nI (f + 1))))), (bb, .inl (cyI, 5, .inl gB)), (bu, .inl (cyJ, 5, .inr (.inl u0.2.2.2.2.2)))] H := hP
          refine lv_aload_n hx hb dX6_goesOn_66 rfl (lv_at hl 3 rfl) ?_
          refine va_get (D := (dC, dI)) (ci := 3) (v := .ref bw) (C := RX6) (T := TX6) (N := 19) hx hb hts hinX6 hown hK hP 0 rfl rfl 12 (by decide) (hts (.fieldLink RX6 35 "RoyalUrTableModel" "walk" "[I") (List.mem_of_getElem? (i := 3) rfl)) (fun _ h9 => h9) rfl dX6_goesOn_67 ?_
          refine lv_iload_n hx hb dX6_goesOn_70 rfl (lv_at hl 2 rfl) ?_
          refine lv_bipush (v := 32) hx hb dX6_goesOn_71 (by decide) ?_
          refine lv_iadd hx hb dX6_goesOn_73 ?_
          refine zz_i (y := nI (32 * h + 32)) (nI_add (32 * h) 32) ?_
          refine lv_iload_n hx hb dX6_goesOn_74 rfl (lv_at hl 1 rfl) ?_
          refine lv_iload hx hb dX6_goesOn_75 (lv_at hl 0 rfl) ?_
          refine lv_aload_n hx hb dX6_goesOn_77 rfl (lv_at hl 3 rfl) ?_
          refine va_get (D := (dC, dI)) (ci := 3) (v := .ref bm) (C := RX6) (T := TX6) (N := 19) hx hb hts hinX6 hown hK hP 0 rfl rfl 14 (by decide) (hts (.fieldLink RX6 41 "RoyalUrTableModel" "marks" "[I") (List.mem_of_getElem? (i := 4) rfl)) (fun _ h9 => h9) rfl dX6_goesOn_78 ?_
          refine lv_iload_n hx hb dX6_goesOn_81 rfl (lv_at hl 4 rfl) ?_
          refine zi_iald hx hb hK hP 3 0 rfl rfl (j := h) rfl (by omega) (by decide) dX6_goesOn_82 ?_
          refine zz_i (y := nI mm) hM0 ?_
          refine zrw_i (w1 := fun u : Nat → Int32 => [(bw, .inl (cyI, 160, .inl u))]) (al := [bw]) (va_runS (As := [.ref bw, .int (nI (32 * h + 32)), .int (nI sd), .int (nI f), .int (nI mm)]) (rest := []) ⟨hx, hb, hml, hown, hts⟩ (c_X6_shifts l dC dI cyI cyJ bw 160 (by omega) u_63 k (32 * h + 32) sd own oth f mm (by omega) hsd (zRow_cp hsd (zRow_cg hsd hrow (fun q _ h2 => hgW q (by omega))) hw_63.2) hO hQ (by omega) hmm c_58 (z_nd hDD.1 [1] (by decide) rfl)) (va_cwS 5 hts gX6_goesOn_X6_shifts rfl rfl rfl (by decide +kernel) ⟨Nat.le_of_ble_eq_true rfl, Nat.le_of_ble_eq_true rfl⟩) (zPc_S zB_T hP hK [1] rfl (fun _ _ _ => trivial)) rfl rfl hl.1 rfl (lv_room (Nat.le_of_ble_eq_true rfl)) dX6_goesOn_83 ⟨Nat.zero_le _, Nat.zero_le _⟩) hP hDD hS [1] rfl (fun _ => rfl) (fun r_83 u_83 H locs hw_83 hP hS => ?_)
          have hP : va_P (dC, dI) vwCl [(bx, .inr (3, [.int thr, .int (nI k), .int sI, .int tI, .int wI, .int cI, .ref bl, .ref ba, .ref bt, .ref bg, .ref be, .ref bf, .ref bw, .ref bs, .ref bm, .ref bn, .ref bb, .ref bu, .ref bh])), (bw, .inl (cyI, 160, .inl u_83)), (bs, .inl (cyI, 5, .inl u0.2.1)), (bm, .inl (cyI, 5, .inl u0.2.2.1)), (bn, .inl (cyI, 5, .inl (upd gN h (nI (f + 1))))), (bb, .inl (cyI, 5, .inl gB)), (bu, .inl (cyJ, 5, .inr (.inl u0.2.2.2.2.2)))] H := hP
          refine lv_istore (lv' := [(5, .int r_83), (4, .int (nI f)), (3, .int (nI sd)), (2, .int (nI (32 * h))), (0, .ref bx), (1, .int (nI h))]) hx hb dX6_goesOn_86 hl (by decide) rfl (fun ls hl => ?_)
          refine lv_aload_n hx hb dX6_goesOn_88 rfl (lv_at hl 4 rfl) ?_
          refine va_get (D := (dC, dI)) (ci := 3) (v := .ref bw) (C := RX6) (T := TX6) (N := 19) hx hb hts hinX6 hown hK hP 0 rfl rfl 12 (by decide) (hts (.fieldLink RX6 35 "RoyalUrTableModel" "walk" "[I") (List.mem_of_getElem? (i := 3) rfl)) (fun _ h9 => h9) rfl dX6_goesOn_89 ?_
          refine lv_iload_n hx hb dX6_goesOn_92 rfl (lv_at hl 3 rfl) ?_
          refine lv_bipush (v := 32) hx hb dX6_goesOn_93 (by decide) ?_
          refine lv_iadd hx hb dX6_goesOn_95 ?_
          refine zz_i (y := nI (32 * h + 32)) (nI_add (32 * h) 32) ?_
          refine lv_bipush (v := 16) hx hb dX6_goesOn_96 (by decide) ?_
          refine lv_iload_n hx hb dX6_goesOn_98 rfl (lv_at hl 2 rfl) ?_
          refine lv_imul hx hb dX6_goesOn_99 ?_
          refine zz_i (y := nI (16 * sd)) (pk_mul 16 sd) ?_
          refine lv_iadd hx hb dX6_goesOn_100 ?_
          refine zz_i (y := nI (32 * h + 32 + 16 * sd)) (nI_add (32 * h + 32) (16 * sd)) ?_
          refine lv_bipush (v := 15) hx hb dX6_goesOn_101 (by decide) ?_
          refine lv_iadd hx hb dX6_goesOn_103 ?_
          refine zz_i (y := nI (32 * h + 32 + 16 * sd + 15)) (nI_add (32 * h + 32 + 16 * sd) 15) ?_
          refine zi_iald hx hb hK hP 1 0 rfl rfl (j := 32 * h + 32 + 16 * sd + 15) rfl (by omega) (by decide) dX6_goesOn_104 ?_
          refine zz_i (y := nI (dg (zsh own f (f + mm)) 15)) (hw_83.2.1.1 15 (by omega)) ?_
          refine lv_aload_n hx hb dX6_goesOn_105 rfl (lv_at hl 4 rfl) ?_
          refine va_get (D := (dC, dI)) (ci := 3) (v := .int (nI k)) (C := RX6) (T := TX6) (N := 19) hx hb hts hinX6 hown hK hP 0 rfl rfl 1 (by decide) (hts (.fieldLink RX6 90 "RoyalUrTableModel" "pieces" "I") (List.mem_of_getElem? (i := 5) rfl)) (fun _ h9 => h9) rfl dX6_goesOn_106 ?_
          refine lv_icmp_ge (tgt := 143) hx hb dX6_goesOn_109 (by decide) (fun c_109 => ?_) (fun c_109 => ?_)
          · skip
            have c_109 : k ≤ (dg (zsh own f (f + mm)) 15) := (nI_leI (a := k) (b := dg (zsh own f (f + mm)) 15) (by omega) (by omega)).mp c_109
            refine lv_aload_n hx hb dX6_goesOn_143 rfl (lv_at hl 4 rfl) ?_
            refine va_get (D := (dC, dI)) (ci := 3) (v := .ref bb) (C := RX6) (T := TX6) (N := 19) hx hb hts hinX6 hown hK hP 0 rfl rfl 16 (by decide) (hts (.fieldLink RX6 47 "RoyalUrTableModel" "best" "[I") (List.mem_of_getElem? (i := 6) rfl)) (fun _ h9 => h9) rfl dX6_goesOn_144 ?_
            refine lv_iload_n hx hb dX6_goesOn_147 rfl (lv_at hl 5 rfl) ?_
            refine lv_ldc (v := 1000000000) hx hb hown (hts (.constant RX6 71 (1000000000)) (List.mem_of_getElem? (i := 7) rfl)) dX6_goesOn_148 ?_
            refine zi_iast hx hb hK hP hDD hS 5 0 rfl rfl (j := h) rfl (by omega) (by decide) dX6_goesOn_150 (fun H locs hP hS => ?_)
            have hP : va_P (dC, dI) vwCl [(bx, .inr (3, [.int thr, .int (nI k), .int sI, .int tI, .int wI, .int cI, .ref bl, .ref ba, .ref bt, .ref bg, .ref be, .ref bf, .ref bw, .ref bs, .ref bm, .ref bn, .ref bb, .ref bu, .ref bh])), (bw, .inl (cyI, 160, .inl u_83)), (bs, .inl (cyI, 5, .inl u0.2.1)), (bm, .inl (cyI, 5, .inl u0.2.2.1)), (bn, .inl (cyI, 5, .inl (upd gN h (nI (f + 1))))), (bb, .inl (cyI, 5, .inl (upd gB h 1000000000))), (bu, .inl (cyJ, 5, .inr (.inl u0.2.2.2.2.2)))] H := hP
            refine lv_goto (tgt := 12) hx hb dX6_goesOn_151 (by decide) ?_
            exact ih12 (f + 1) _ _ _ (by omega) (by omega) (fun q hq => (hw_83.2.2 q (Or.inl hq)).trans ((hw_63.1 q hq).trans (hgW q hq))) (fun j hj => (pk_un (by omega)).trans (hgN j hj)) (fun j hj => (pk_un (by omega)).trans (hgB j hj)) pk_us (zGs_y (by omega) hst (fun h1 => by rw [pk_us]; exact zBI_w h1 hgl c_58 (by show zBM _ _ _ _ _ = _; rw [zBM, if_pos ((zhome_iff hO2).mpr (by omega))]))) (by omega) _ _ hP hS _ (lv_sub hl [2, 3, 4, 5] rfl)
          · skip
            have c_109 : ¬ k ≤ (dg (zsh own f (f + mm)) 15) := fun h9 => c_109 ((nI_leI (a := k) (b := dg (zsh own f (f + mm)) 15) (by omega) (by omega)).mpr h9)
            refine lv_aload_n hx hb dX6_goesOn_112 rfl (lv_at hl 4 rfl) ?_
            refine lv_iload_n hx hb dX6_goesOn_113 rfl (lv_at hl 5 rfl) ?_
            refine lv_iconst (v := 1) hx hb dX6_goesOn_114 (by decide) ?_
            refine lv_iadd hx hb dX6_goesOn_115 ?_
            refine zz_i (y := nI (h + 1)) (nI_add h 1) ?_
            refine lv_iload hx hb dX6_goesOn_116 (lv_at hl 1 rfl) ?_
            refine lv_aload_n hx hb dX6_goesOn_118 rfl (lv_at hl 4 rfl) ?_
            refine va_get (D := (dC, dI)) (ci := 3) (v := .ref bm) (C := RX6) (T := TX6) (N := 19) hx hb hts hinX6 hown hK hP 0 rfl rfl 14 (by decide) (hts (.fieldLink RX6 41 "RoyalUrTableModel" "marks" "[I") (List.mem_of_getElem? (i := 4) rfl)) (fun _ h9 => h9) rfl dX6_goesOn_119 ?_
            refine lv_iload_n hx hb dX6_goesOn_122 rfl (lv_at hl 5 rfl) ?_
            refine zi_iald hx hb hK hP 3 0 rfl rfl (j := h) rfl (by omega) (by decide) dX6_goesOn_123 ?_
            refine zz_i (y := nI mm) hM0 ?_
            refine lv_iadd hx hb dX6_goesOn_124 ?_
            refine zz_i (y := nI (f + mm)) (nI_add f mm) ?_
            refine zro_i (va_runS (As := [.int (nI (f + mm))]) (rest := [.int (nI (h + 1)), .ref bx]) ⟨hx, hb, hml, hown, hts⟩ (c_X6_isRosette l (f + mm) (by omega)) (va_cwS 1 hts gX6_goesOn_X6_isRosette rfl rfl rfl (by decide +kernel) ⟨Nat.le_of_ble_eq_true rfl, Nat.le_of_ble_eq_true rfl⟩) zPu rfl rfl hl.1 rfl (lv_room (Nat.le_of_ble_eq_true rfl)) dX6_goesOn_125 ⟨Nat.zero_le _, Nat.zero_le _⟩) hP hS (fun H locs hP hS => ?_)
            refine lv_if_eq (tgt := 135) hx hb dX6_goesOn_128 (by decide) (fun c_128 => ?_) (fun c_128 => ?_)
            · skip
              have c_128 := bI_0.mp c_128
              refine lv_iconst (v := 1) hx hb dX6_goesOn_135 (by decide) ?_
              refine lv_iload_n hx hb dX6_goesOn_136 rfl (lv_at hl 2 rfl) ?_
              refine lv_isub hx hb dX6_goesOn_137 ?_
              refine zz_i (y := nI (1 - sd)) (pk_sub (a := 1) (b := sd) (by omega)) ?_
              refine zrw_v (w1 := fun _ : Unit => [(bx, .inr (3, [.int thr, .int (nI k), .int sI, .int tI, .int wI, .int cI, .ref bl, .ref ba, .ref bt, .ref bg, .ref be, .ref bf, .ref bw, .ref bs, .ref bm, .ref bn, .ref bb, .ref bu, .ref bh])), (bs, .inl (cyI, 5, .inl (upd u0.2.1 (h + 1) (nI (1 - sd))))), (bm, .inl (cyI, 5, .inl (upd u0.2.2.1 (h + 1) 0))), (bn, .inl (cyI, 5, .inl (upd (upd gN h (nI (f + 1))) (h + 1) 0))), (bb, .inl (cyI, 5, .inl (upd gB (h + 1) (-1)))), (bu, .inl (cyJ, 5, .inr (.inl (vp_updL u0.2.2.2.2.2 (h + 1) 0))))]) (al := [bx, bs, bm, bn, bb, bu]) (va_runV (As := [.int (nI (h + 1)), .int (nI (1 - sd))]) (rest := []) ⟨hx, hb, hml, hown, hts⟩ (c_X6_enters l dC dI cyI cyJ k bx bl ba bt bg be bf bw bs bm bn bb bu bh thr sI tI wI cI u0.2.1 u0.2.2.1 (upd gN h (nI (f + 1))) gB u0.2.2.2.2.2 (h + 1) (by omega) (nI (1 - sd)) (z_nd hDD.1 [0, 2, 3, 4, 5, 6] (by decide) rfl)) (cwV 2 hts gX6_goesOn_X6_enters rfl rfl rfl (by decide +kernel) ⟨Nat.le_of_ble_eq_true rfl, Nat.le_of_ble_eq_true rfl⟩) (zPc_V (ci := 3) (q0 := 0) zB_T hP hK rfl rfl [0, 2, 3, 4, 5, 6] rfl (fun _ _ _ => trivial)) rfl rfl hl.1 rfl (lv_room (Nat.le_of_ble_eq_true rfl)) dX6_goesOn_138 ⟨Nat.zero_le _, Nat.zero_le _⟩) hP hDD hS [0, 2, 3, 4, 5, 6] rfl (fun _ => rfl) (fun u_138 H locs hw_138 hP hS => ?_)
              have hP : va_P (dC, dI) vwCl [(bx, .inr (3, [.int thr, .int (nI k), .int sI, .int tI, .int wI, .int cI, .ref bl, .ref ba, .ref bt, .ref bg, .ref be, .ref bf, .ref bw, .ref bs, .ref bm, .ref bn, .ref bb, .ref bu, .ref bh])), (bw, .inl (cyI, 160, .inl u_83)), (bs, .inl (cyI, 5, .inl (upd u0.2.1 (h + 1) (nI (1 - sd))))), (bm, .inl (cyI, 5, .inl (upd u0.2.2.1 (h + 1) 0))), (bn, .inl (cyI, 5, .inl (upd (upd gN h (nI (f + 1))) (h + 1) 0))), (bb, .inl (cyI, 5, .inl (upd gB (h + 1) (-1)))), (bu, .inl (cyJ, 5, .inr (.inl (vp_updL u0.2.2.2.2.2 (h + 1) 0))))] H := hP
              refine lv_iconst (v := 1) hx hb dX6_goesOn_141 (by decide) ?_
              subst hQe
              exact W.zret (v := 1) hx hb hr rfl (fun t ht hW => ⟨⟨_, (u_83, upd u0.2.1 (h + 1) (nI (1 - sd)), upd u0.2.2.1 (h + 1) 0, upd (upd gN h (nI (f + 1))) (h + 1) 0, upd gB (h + 1) (-1), vp_updL u0.2.2.2.2.2 (h + 1) 0), rfl, ⟨zkp_mk (fun j hj => (pk_un (by omega)).trans (hgN j hj)) hgB (fun q hq => by rw [hw_83.2.2 q (Or.inl hq)]; exact (hw_63.1 q hq).trans (hgW q hq)), zPo_a (f := f) (by omega) hf0 hst c_58 (zhome_n hO2 (by omega)) ((pk_un (by omega)).trans pk_us) (pk_un (by omega)) (Or.inr ⟨c_128, zent_mk (hw_83.2.1.sw hsd)⟩)⟩, zh ht hP⟩, hS.F ht⟩) hS.2.2 dX6_goesOn_142
            · skip
              have c_128 := bI_1.mp c_128
              refine lv_iload_n hx hb dX6_goesOn_131 rfl (lv_at hl 2 rfl) ?_
              refine lv_goto (tgt := 138) hx hb dX6_goesOn_132 (by decide) ?_
              refine zrw_v (w1 := fun _ : Unit => [(bx, .inr (3, [.int thr, .int (nI k), .int sI, .int tI, .int wI, .int cI, .ref bl, .ref ba, .ref bt, .ref bg, .ref be, .ref bf, .ref bw, .ref bs, .ref bm, .ref bn, .ref bb, .ref bu, .ref bh])), (bs, .inl (cyI, 5, .inl (upd u0.2.1 (h + 1) (nI sd)))), (bm, .inl (cyI, 5, .inl (upd u0.2.2.1 (h + 1) 0))), (bn, .inl (cyI, 5, .inl (upd (upd gN h (nI (f + 1))) (h + 1) 0))), (bb, .inl (cyI, 5, .inl (upd gB (h + 1) (-1)))), (bu, .inl (cyJ, 5, .inr (.inl (vp_updL u0.2.2.2.2.2 (h + 1) 0))))]) (al := [bx, bs, bm, bn, bb, bu]) (va_runV (As := [.int (nI (h + 1)), .int (nI sd)]) (rest := []) ⟨hx, hb, hml, hown, hts⟩ (c_X6_enters l dC dI cyI cyJ k bx bl ba bt bg be bf bw bs bm bn bb bu bh thr sI tI wI cI u0.2.1 u0.2.2.1 (upd gN h (nI (f + 1))) gB u0.2.2.2.2.2 (h + 1) (by omega) (nI sd) (z_nd hDD.1 [0, 2, 3, 4, 5, 6] (by decide) rfl)) (cwV 2 hts gX6_goesOn_X6_enters rfl rfl rfl (by decide +kernel) ⟨Nat.le_of_ble_eq_true rfl, Nat.le_of_ble_eq_true rfl⟩) (zPc_V (ci := 3) (q0 := 0) zB_T hP hK rfl rfl [0, 2, 3, 4, 5, 6] rfl (fun _ _ _ => trivial)) rfl rfl hl.1 rfl (lv_room (Nat.le_of_ble_eq_true rfl)) dX6_goesOn_138 ⟨Nat.zero_le _, Nat.zero_le _⟩) hP hDD hS [0, 2, 3, 4, 5, 6] rfl (fun _ => rfl) (fun u_138 H locs hw_138 hP hS => ?_)
              have hP : va_P (dC, dI) vwCl [(bx, .inr (3, [.int thr, .int (nI k), .int sI, .int tI, .int wI, .int cI, .ref bl, .ref ba, .ref bt, .ref bg, .ref be, .ref bf, .ref bw, .ref bs, .ref bm, .ref bn, .ref bb, .ref bu, .ref bh])), (bw, .inl (cyI, 160, .inl u_83)), (bs, .inl (cyI, 5, .inl (upd u0.2.1 (h + 1) (nI sd)))), (bm, .inl (cyI, 5, .inl (upd u0.2.2.1 (h + 1) 0))), (bn, .inl (cyI, 5, .inl (upd (upd gN h (nI (f + 1))) (h + 1) 0))), (bb, .inl (cyI, 5, .inl (upd gB (h + 1) (-1)))), (bu, .inl (cyJ, 5, .inr (.inl (vp_updL u0.2.2.2.2.2 (h + 1) 0))))] H := hP
              refine lv_iconst (v := 1) hx hb dX6_goesOn_141 (by decide) ?_
              subst hQe
              exact W.zret (v := 1) hx hb hr rfl (fun t ht hW => ⟨⟨_, (u_83, upd u0.2.1 (h + 1) (nI sd), upd u0.2.2.1 (h + 1) 0, upd (upd gN h (nI (f + 1))) (h + 1) 0, upd gB (h + 1) (-1), vp_updL u0.2.2.2.2.2 (h + 1) 0), rfl, ⟨zkp_mk (fun j hj => (pk_un (by omega)).trans (hgN j hj)) hgB (fun q hq => by rw [hw_83.2.2 q (Or.inl hq)]; exact (hw_63.1 q hq).trans (hgW q hq)), zPo_a (f := f) (by omega) hf0 hst c_58 (zhome_n hO2 (by omega)) ((pk_un (by omega)).trans pk_us) (pk_un (by omega)) (Or.inl ⟨c_128, zent_mk hw_83.2.1⟩)⟩, zh ht hP⟩, hS.F ht⟩) hS.2.2 dX6_goesOn_142
  exact lp 16 f0 _ _ _ hf9 (Nat.le_refl _) (fun _ _ => rfl) (fun _ _ => rfl) (fun _ _ => rfl) hN0 (zGs_0 hst0) (by omega) _ _ hP hS _ (lv_sub hl [0, 1, 2, 3] rfl)

/-! the reference's walk: the worth of the position at the bottom -/
theorem zAg_r (h : Nat) (u : zU) : zAg h u u := ⟨fun _ _ => rfl, fun _ _ => ⟨rfl, rfl, rfl, rfl, rfl⟩⟩
theorem zAg_t {h : Nat} {u v w : zU} (h1 : zAg h u v) (h2 : zAg h v w) : zAg h u w :=
  ⟨fun q hq => (h2.1 q hq).trans (h1.1 q hq), fun j hj => by
    obtain ⟨a1, a2, a3, a4, a5⟩ := h1.2 j hj
    obtain ⟨b1, b2, b3, b4, b5⟩ := h2.2 j hj
    exact ⟨b1.trans a1, b2.trans a2, b3.trans a3, b4.trans a4, b5.trans a5⟩⟩
theorem zAg_d {h : Nat} {u v : zU} (h1 : zAg (h + 1) u v) : zAg h u v := ⟨fun q hq => h1.1 q (by omega), fun j hj => h1.2 j (by omega)⟩
/-- the state of a height -/
def zStt (k e h sd own oth mm f ps : Nat) (u0 u1 : zU) : Prop :=
  mm ≤ 4 ∧ f ≤ 15 ∧ ps ≤ 1 ∧ zAg h u0 u1 ∧ u1.2.1 h = nI sd ∧ u1.2.2.1 h = nI mm ∧ u1.2.2.2.1 h = nI f ∧
  ((ps = 1 ∧ zBI (fun fr => zBM (zV k e) own oth fr mm) own oth mm f (u1.2.2.2.2.1 h)) ∨ (ps = 0 ∧ f = 15 ∧ zHas own oth mm 15 = false ∧ u1.2.2.2.2.1 h = nI (1000000000 - zV k e oth own))) ∧
  u1.2.2.2.2.2 h = lN (zsm (zBT (zV k e) own oth) mm) ∧ zRow u1.1 (32 * h) sd own oth
theorem zStt_0 {k e h sd own oth : Nat} {u0 : zU} (he : zEnt u0 h sd own oth) : zStt k e h sd own oth 0 0 1 u0 u0 :=
  ⟨by omega, by omega, by omega, zAg_r _ _, he.1, he.2.1, he.2.2.1, Or.inl ⟨rfl, by rw [he.2.2.2.1]; exact zBI_0 _ _ _ _⟩, he.2.2.2.2.1, he.2.2.2.2.2⟩
theorem zStt_go {k e h sd own oth mm f ps : Nat} {u0 u1 : zU} (h1 : zStt k e h sd own oth mm f ps u0 u1) : zGo (fun fr => zBM (zV k e) own oth fr mm) own oth mm f (u1.2.2.2.2.1 h) := by
  obtain ⟨-, -, -, -, -, -, -, h2, -, -⟩ := h1
  rcases h2 with ⟨-, h3⟩ | ⟨-, h3, -, h4⟩
  · exact Or.inl h3
  · exact Or.inr ⟨h3, _, by omega, h4⟩
theorem zStt_A {k e h sd own oth mm f ps fr : Nat} {u0 u1 u u2 : zU} {w9 : Int32} (hsd : sd ≤ 1) (h1 : zStt k e h sd own oth mm f ps u0 u1) (hk : zKp h u1 u) (hfr : fr ≤ 14) (hc : zcm own oth fr mm = true) (hn : u.2.2.2.1 h = nI (fr + 1)) (hz : zBI (fun fr => zBM (zV k e) own oth fr mm) own oth mm fr (u.2.2.2.2.1 h))
    (ha : zAg (h + 1) u u2) (hw : w9 = nI (zBM (zV k e) own oth fr mm)) : zStt k e h sd own oth mm (fr + 1) 1 u0 (u2.1, u2.2.1, u2.2.2.1, u2.2.2.2.1, upd u2.2.2.2.2.1 h (zMx (u2.2.2.2.2.1 h) w9), u2.2.2.2.2.2) := by
  obtain ⟨a1, a2, a3, a4, a5, a6, a7, a8, a9, a10⟩ := h1
  obtain ⟨b1, b2, b3, b4, b5⟩ := hk
  obtain ⟨c1, c2, c3, c4, c5⟩ := ha.2 h (by omega)
  refine ⟨a1, by omega, by omega, ⟨fun q hq => (ha.1 q (by omega)).trans ((b1.1 q hq).trans (a4.1 q hq)), fun j hj => ?_⟩, c1.trans (b3.trans a5), c2.trans (b4.trans a6), c3.trans hn, Or.inl ⟨rfl, ?_⟩, c5.trans (b5.trans a9), zRow_cg hsd a10 (fun q _ h2 => (ha.1 q (by omega)).trans (b2 q (by omega)))⟩
  · obtain ⟨d1, d2, d3, d4, d5⟩ := (zAg_t a4 (zAg_t b1 (zAg_d ha))).2 j hj
    exact ⟨d1, d2, d3, (pk_un (by omega)).trans d4, d5⟩
  · show zBI _ _ _ _ _ (upd _ h _ h)
    rw [pk_us, c4, hw]
    exact zBI_y hz (fun a => zBM_le (zV_le k e) _ _ _ _) hc
theorem zStt_B {k e h sd own oth mm f ps : Nat} {u0 u1 u u2 : zU} {w9 : Int32} (hsd : sd ≤ 1) (h1 : zStt k e h sd own oth mm f ps u0 u1) (hk : zKp h u1 u) (hh : zHas own oth mm 15 = false) (hn : u.2.2.2.1 h = nI 15) (hz : u.2.2.2.2.1 h = -1)
    (ha : zAg (h + 1) u u2) (hw : w9 = nI (1000000000 - zV k e oth own)) : zStt k e h sd own oth mm 15 0 u0 (u2.1, u2.2.1, u2.2.2.1, u2.2.2.2.1, upd u2.2.2.2.2.1 h (zMx (u2.2.2.2.2.1 h) w9), u2.2.2.2.2.2) := by
  obtain ⟨a1, a2, a3, a4, a5, a6, a7, a8, a9, a10⟩ := h1
  obtain ⟨b1, b2, b3, b4, b5⟩ := hk
  obtain ⟨c1, c2, c3, c4, c5⟩ := ha.2 h (by omega)
  refine ⟨a1, by omega, by omega, ⟨fun q hq => (ha.1 q (by omega)).trans ((b1.1 q hq).trans (a4.1 q hq)), fun j hj => ?_⟩, c1.trans (b3.trans a5), c2.trans (b4.trans a6), c3.trans hn, Or.inr ⟨rfl, rfl, hh, ?_⟩, c5.trans (b5.trans a9), zRow_cg hsd a10 (fun q _ h2 => (ha.1 q (by omega)).trans (b2 q (by omega)))⟩
  · obtain ⟨d1, d2, d3, d4, d5⟩ := (zAg_t a4 (zAg_t b1 (zAg_d ha))).2 j hj
    exact ⟨d1, d2, d3, (pk_un (by omega)).trans d4, d5⟩
  · show upd _ h _ h = _
    rw [pk_us, c4, hz, hw, zMx, if_pos]
    rw [Int32.lt_iff_toInt_lt, nI_toInt (by omega)]
    show (-1 : Int) < _
    omega
theorem zStt_b {k e h sd own oth mm f ps : Nat} {u0 u1 u : zU} (h1 : zStt k e h sd own oth mm f ps u0 u1) (hp : (zHas own oth mm 15 = true ∧ u.2.2.2.2.1 h = nI (zBst (fun fr => zBM (zV k e) own oth fr mm) own oth mm 15)) ∨ (f = 15 ∧ (∃ x, x ≤ 1000000000 ∧ u1.2.2.2.2.1 h = nI x) ∧ u.2.2.2.2.1 h = u1.2.2.2.2.1 h)) : u.2.2.2.2.1 h = nI (zBT (zV k e) own oth mm) := by
  obtain ⟨-, -, -, -, -, -, -, a8, -, -⟩ := h1
  rcases hp with ⟨h2, h3⟩ | ⟨h2, ⟨x, hx1, hx2⟩, h4⟩
  · rw [h3, zBT, if_pos h2]
  · rw [h4]
    subst h2
    rcases a8 with ⟨-, h5⟩ | ⟨-, -, h5, h6⟩
    · obtain ⟨h6, h7⟩ := zBI_t h5 (by rw [hx2]; exact nI_nm hx1)
      rw [h7, zBT, if_pos h6]
    · rw [h6, zBT, if_neg (by rw [h5]; decide)]
theorem zStt_C {k e h sd own oth mm f ps : Nat} {u0 u1 u : zU} (hsd : sd ≤ 1) (h1 : zStt k e h sd own oth mm f ps u0 u1) (hk : zKp h u1 u) (hm : ¬ mm + 1 = 5) : zStt k e h sd own oth (mm + 1) 0 1 u0 (u.1, u.2.1, upd u.2.2.1 h (nI (mm + 1)), upd u.2.2.2.1 h 0, upd u.2.2.2.2.1 h (-1), vp_updL u.2.2.2.2.2 h (lN (zsm (zBT (zV k e) own oth) (mm + 1)))) := by
  obtain ⟨a1, a2, a3, a4, a5, a6, a7, a8, a9, a10⟩ := h1
  obtain ⟨b1, b2, b3, b4, b5⟩ := hk
  refine ⟨by omega, by omega, by omega, ⟨fun q hq => (b1.1 q hq).trans (a4.1 q hq), fun j hj => ?_⟩, b3.trans a5, pk_us, pk_us, Or.inl ⟨rfl, ?_⟩, pk_uLs, zRow_cg hsd a10 (fun q _ h2 => b2 q (by omega))⟩
  · obtain ⟨d1, d2, d3, d4, d5⟩ := (zAg_t a4 b1).2 j hj
    exact ⟨d1, (pk_un (by omega)).trans d2, (pk_un (by omega)).trans d3, (pk_un (by omega)).trans d4, (pk_uLn (by omega)).trans d5⟩
  · show zBI _ _ _ _ _ (upd _ h _ h)
    rw [pk_us]
    exact zBI_0 _ _ _ _
theorem zStt_D {k e h sd own oth mm f ps : Nat} {u0 u1 u : zU} {x y z : Int32} {w : Int64} (h1 : zStt k e h sd own oth mm f ps u0 u1) (hk : zKp h u1 u) : zAg h u0 (u.1, u.2.1, upd u.2.2.1 h x, upd u.2.2.2.1 h y, upd u.2.2.2.2.1 h z, vp_updL u.2.2.2.2.2 h w) := by
  obtain ⟨a1, a2, a3, a4, a5, a6, a7, a8, a9, a10⟩ := h1
  obtain ⟨b1, b2, b3, b4, b5⟩ := hk
  refine ⟨fun q hq => (b1.1 q hq).trans (a4.1 q hq), fun j hj => ?_⟩
  obtain ⟨d1, d2, d3, d4, d5⟩ := (zAg_t a4 b1).2 j hj
  exact ⟨d1, (pk_un (by omega)).trans d2, (pk_un (by omega)).trans d3, (pk_un (by omega)).trans d4, (pk_uLn (by omega)).trans d5⟩
theorem zBM_r {V : Nat → Nat → Nat} {own oth fr m : Nat} (h : zhome (zsh own fr (fr + m)) = false) (hr : zros (fr + m) = true) : zBM V own oth fr m = V (zsh own fr (fr + m)) (if ztk oth (fr + m) = true then zsh oth (fr + m) 0 else oth) := by
  unfold zBM
  rw [if_neg (c := zhome (zsh own fr (fr + m)) = true) (by rw [h]; decide), if_pos hr]
theorem zBM_o {V : Nat → Nat → Nat} {own oth fr m : Nat} (h : zhome (zsh own fr (fr + m)) = false) (hr : zros (fr + m) = false) : zBM V own oth fr m = 1000000000 - V (if ztk oth (fr + m) = true then zsh oth (fr + m) 0 else oth) (zsh own fr (fr + m)) := by
  unfold zBM
  rw [if_neg (c := zhome (zsh own fr (fr + m)) = true) (by rw [h]; decide), if_neg (c := zros (fr + m) = true) (by rw [hr]; decide)]
theorem zIts_s {s9 V : Int32} : zIts s9 s9 V = V := if_pos rfl
theorem zIts_o {sd V : Nat} (hs : sd ≤ 1) (hV : V ≤ 1000000000) : zIts (nI sd) (nI (1 - sd)) (nI V) = nI (1000000000 - V) := by
  rw [zIts, if_neg (fun h => by have := (nI_eq (by omega) (by omega)).mp h; omega)]
  exact zsubW hV
theorem zok_tk {k oth p : Nat} (hQ : zok k oth) (hp : p ≤ 15) : zok k (if ztk oth p = true then zsh oth p 0 else oth) := by
  split
  · rename_i h
    obtain ⟨h1, h2, h3⟩ := ztk_spec h
    exact zok_sh hQ h3 hp (by omega) (by omega)
  · exact hQ
theorem zStt_p {k e h sd own oth mm f ps : Nat} {u0 u1 : zU} (h1 : zStt k e h sd own oth mm f ps u0 u1) (hb : zBI (fun fr => zBM (zV k e) own oth fr mm) own oth mm f (u1.2.2.2.2.1 h)) (hh : zHas own oth mm 15 = false) : 1 ≤ ps ∨ f < 15 := by
  obtain ⟨-, -, -, -, -, -, -, a8, -, -⟩ := h1
  rcases a8 with ⟨h2, -⟩ | ⟨h2, h3, -, h5⟩
  · exact Or.inl (by omega)
  · exfalso
    subst h3
    rcases hb with ⟨-, -, h7⟩ | ⟨h7, -⟩
    · exact nI_nm (by omega) (h5.symm.trans h7)
    · rw [hh] at h7; cases h7
set_option maxHeartbeats 4000000 in
set_option maxRecDepth 100000 in
theorem c_X6_worthOf (l : Launch) (dC : Nat → ClassId) (dI : Nat → Nat → Nat) (cyI cyJ : ClassId) (k : Nat) (hk1 : 1 ≤ k) (bx bl ba bt bg be bf bw bs bm bn bb bu bh : Nat) (thr sI tI wI cI : Int32) (tf ff : Nat → Int32) (htf : ∀ j, j < 5 → tf j = nI (ztm j)) (hff : zFt 40 ff) (u0 : zU) (sd own oth d : Nat) (hd : d ≤ 3) (hsd : sd ≤ 1) (hO : zok k own) (hQ : zok k oth) (hrow : zRow u0.1 (32 * 0) sd own oth) (s9 : Int32) (hs9 : s9 = nI sd) (hnd : [bx, bt, bf, bw, bs, bm, bn, bb, bu].Nodup) : Met l yX6_worthOf wsX6_worthOf ({ frames := 4, cells := 0, slots := 0, locals := 94 }) (zPc [.ref bx, .int s9, .int (nI d)] (dC, dI) vwCl [(cyI, .int), (cyJ, .long)] [(bx, .inr (3, [.int thr, .int (nI k), .int sI, .int tI, .int wI, .int cI, .ref bl, .ref ba, .ref bt, .ref bg, .ref be, .ref bf, .ref bw, .ref bs, .ref bm, .ref bn, .ref bb, .ref bu, .ref bh])), (bt, .inl (cyI, 5, .inl tf)), (bf, .inl (cyI, 225, .inl ff)), (bw, .inl (cyI, 160, .inl u0.1)), (bs, .inl (cyI, 5, .inl u0.2.1)), (bm, .inl (cyI, 5, .inl u0.2.2.1)), (bn, .inl (cyI, 5, .inl u0.2.2.2.1)), (bb, .inl (cyI, 5, .inl u0.2.2.2.2.1)), (bu, .inl (cyJ, 5, .inr (.inl u0.2.2.2.2.2)))] (fun _ => True)) (va_Qi (fun (r : Int32) (_ : zU) => r = nI (zV k d own oth)) (fun (u : zU) t => va_P (dC, dI) vwCl ([(bx, .inr (3, [.int thr, .int (nI k), .int sI, .int tI, .int wI, .int cI, .ref bl, .ref ba, .ref bt, .ref bg, .ref be, .ref bf, .ref bw, .ref bs, .ref bm, .ref bn, .ref bb, .ref bu, .ref bh])), (bt, .inl (cyI, 5, .inl tf)), (bf, .inl (cyI, 225, .inl ff)), (bw, .inl (cyI, 160, .inl u.1)), (bs, .inl (cyI, 5, .inl u.2.1)), (bm, .inl (cyI, 5, .inl u.2.2.1)), (bn, .inl (cyI, 5, .inl u.2.2.2.1)), (bb, .inl (cyI, 5, .inl u.2.2.2.2.1)), (bu, .inl (cyJ, 5, .inr (.inl u.2.2.2.2.2)))]) t.heap) (zA [bx, bt, bf, bw, bs, bm, bn, bb, bu])) 0 0 (zA [bx, bt, bf, bw, bs, bm, bn, bb, bu]) := by
  refine Met.ofW (cc := cX6_worthOf) (maxL := 5) (ret := (some .int)) (by decide) rfl ?_
  intro p e s m args below meth c s₁ B hml hv
  obtain ⟨rfl, hP, hK, hX⟩ := hv
  have hx := B.exec
  have hb := B.bytes
  have hr := B.returns
  have hts := atoms_spec (ws := wsX6_worthOf) B.pre
  have hown : s.vm.findClass RX6 = some m.cls := findClass_of_methodNamed B.named
  have hlocks := B.notSynchronized
  have hinX6 : ∀ w ∈ wsX60, w ∈ wsX6_worthOf := by decide +kernel
  have hl := lv_entry ([.ref bx, .int s9, .int (nI d)]) (n := 5) (Nat.le_of_ble_eq_true rfl)
  rw [lg_entry_eq]
  generalize (lg_sl ([.ref bx, .int s9, .int (nI d)]) ++ List.replicate (5 - (lg_sl ([.ref bx, .int s9, .int (nI d)])).length) Slot.unset).toArray = ls at hl ⊢
  have hl : lv_has ls 5 [(0, .ref bx), (1, .int s9), (2, .int (nI d))] := hl
  have hS : va_S (zA [bx, bt, bf, bw, bs, bm, bn, bb, bu]) s.heap s.heap [] := va_S.rf
  have hDD : zD (zA [bx, bt, bf, bw, bs, bm, bn, bb, bu]) [bx, bt, bf, bw, bs, bm, bn, bb, bu] := ⟨hnd, fun _ h => h⟩
  generalize hQe : MQ below _ _ _ _ _ _ = Q
  refine lv_iconst (v := 0) hx hb dX6_worthOf_0 (by decide) ?_
  refine lv_istore_n (lv' := [(3, .int 0), (0, .ref bx), (1, .int s9), (2, .int (nI d))]) hx hb dX6_worthOf_1 rfl hl (by decide) rfl (fun ls hl => ?_)
  refine lv_aload_n hx hb dX6_worthOf_2 rfl (lv_at hl 1 rfl) ?_
  refine lv_iconst (v := 0) hx hb dX6_worthOf_3 (by decide) ?_
  refine lv_iload_n hx hb dX6_worthOf_4 rfl (lv_at hl 2 rfl) ?_
  refine zz_i (y := nI sd) hs9 ?_
  refine zrw_v (w1 := fun _ : Unit => [(bx, .inr (3, [.int thr, .int (nI k), .int sI, .int tI, .int wI, .int cI, .ref bl, .ref ba, .ref bt, .ref bg, .ref be, .ref bf, .ref bw, .ref bs, .ref bm, .ref bn, .ref bb, .ref bu, .ref bh])), (bs, .inl (cyI, 5, .inl (upd u0.2.1 0 (nI sd)))), (bm, .inl (cyI, 5, .inl (upd u0.2.2.1 0 0))), (bn, .inl (cyI, 5, .inl (upd u0.2.2.2.1 0 0))), (bb, .inl (cyI, 5, .inl (upd u0.2.2.2.2.1 0 (-1)))), (bu, .inl (cyJ, 5, .inr (.inl (vp_updL u0.2.2.2.2.2 0 0))))]) (al := [bx, bs, bm, bn, bb, bu]) (va_runV (As := [.int 0, .int (nI sd)]) (rest := []) ⟨hx, hb, hml, hown, hts⟩ (c_X6_enters l dC dI cyI cyJ k bx bl ba bt bg be bf bw bs bm bn bb bu bh thr sI tI wI cI u0.2.1 u0.2.2.1 u0.2.2.2.1 u0.2.2.2.2.1 u0.2.2.2.2.2 0 (by omega) (nI sd) (z_nd hDD.1 [0, 4, 5, 6, 7, 8] (by decide) rfl)) (cwV 2 hts gX6_worthOf_X6_enters rfl rfl rfl (by decide +kernel) ⟨Nat.le_of_ble_eq_true rfl, Nat.le_of_ble_eq_true rfl⟩) (zPc_V (ci := 3) (q0 := 0) zB_T hP hK rfl rfl [0, 4, 5, 6, 7, 8] rfl (fun _ _ _ => trivial)) rfl rfl hl.1 rfl (lv_room (Nat.le_of_ble_eq_true rfl)) dX6_worthOf_5 ⟨Nat.zero_le _, Nat.zero_le _⟩) hP hDD hS [0, 4, 5, 6, 7, 8] rfl (fun _ => rfl) (fun u_5 H locs hw_5 hP hS => ?_)
  have hP : va_P (dC, dI) vwCl [(bx, .inr (3, [.int thr, .int (nI k), .int sI, .int tI, .int wI, .int cI, .ref bl, .ref ba, .ref bt, .ref bg, .ref be, .ref bf, .ref bw, .ref bs, .ref bm, .ref bn, .ref bb, .ref bu, .ref bh])), (bt, .inl (cyI, 5, .inl tf)), (bf, .inl (cyI, 225, .inl ff)), (bw, .inl (cyI, 160, .inl u0.1)), (bs, .inl (cyI, 5, .inl (upd u0.2.1 0 (nI sd)))), (bm, .inl (cyI, 5, .inl (upd u0.2.2.1 0 0))), (bn, .inl (cyI, 5, .inl (upd u0.2.2.2.1 0 0))), (bb, .inl (cyI, 5, .inl (upd u0.2.2.2.2.1 0 (-1)))), (bu, .inl (cyJ, 5, .inr (.inl (vp_updL u0.2.2.2.2.2 0 0))))] H := hP
  have ent : ∀ (e9 h sd own oth : Nat) (u0 : zU), h + e9 = d → sd ≤ 1 → zok k own → zok k oth → zEnt u0 h sd own oth → ∀ (H : Heap) (locs : List Loc), va_P (dC, dI) vwCl [(bx, .inr (3, [.int thr, .int (nI k), .int sI, .int tI, .int wI, .int cI, .ref bl, .ref ba, .ref bt, .ref bg, .ref be, .ref bf, .ref bw, .ref bs, .ref bm, .ref bn, .ref bb, .ref bu, .ref bh])), (bt, .inl (cyI, 5, .inl tf)), (bf, .inl (cyI, 225, .inl ff)), (bw, .inl (cyI, 160, .inl u0.1)), (bs, .inl (cyI, 5, .inl u0.2.1)), (bm, .inl (cyI, 5, .inl u0.2.2.1)), (bn, .inl (cyI, 5, .inl u0.2.2.2.1)), (bb, .inl (cyI, 5, .inl u0.2.2.2.2.1)), (bu, .inl (cyJ, 5, .inr (.inl u0.2.2.2.2.2)))] H → va_S (zA [bx, bt, bf, bw, bs, bm, bn, bb, bu]) s.heap H locs → ∀ ls : Array Slot, lv_has ls 5 [(3, .int (nI h)), (0, .ref bx), (1, .int s9), (2, .int (nI d))] → (∀ u1 : zU, zAg h u0 u1 → u1.2.1 h = u0.2.1 h → ∀ (H : Heap) (locs : List Loc), va_P (dC, dI) vwCl [(bx, .inr (3, [.int thr, .int (nI k), .int sI, .int tI, .int wI, .int cI, .ref bl, .ref ba, .ref bt, .ref bg, .ref be, .ref bf, .ref bw, .ref bs, .ref bm, .ref bn, .ref bb, .ref bu, .ref bh])), (bt, .inl (cyI, 5, .inl tf)), (bf, .inl (cyI, 225, .inl ff)), (bw, .inl (cyI, 160, .inl u1.1)), (bs, .inl (cyI, 5, .inl u1.2.1)), (bm, .inl (cyI, 5, .inl u1.2.2.1)), (bn, .inl (cyI, 5, .inl u1.2.2.2.1)), (bb, .inl (cyI, 5, .inl u1.2.2.2.2.1)), (bu, .inl (cyJ, 5, .inr (.inl u1.2.2.2.2.2)))] H → va_S (zA [bx, bt, bf, bw, bs, bm, bn, bb, bu]) s.heap H locs → ∀ ls : Array Slot, lv_has ls 5 [(4, .int (nI (zV k e9 own oth))), (3, .int (nI h)), (0, .ref bx), (1, .int s9), (2, .int (nI d))] → W p l e (headSpec wsX6_worthOf ({ frames := 4, cells := 0, slots := 0, locals := 94 })).room s m ([.ref bx, .int s9, .int (nI d)] : List Value).toArray below meth c H locs 0 0 Q (F0 m 129 ls [])) → W p l e (headSpec wsX6_worthOf ({ frames := 4, cells := 0, slots := 0, locals := 94 })).room s m ([.ref bx, .int s9, .int (nI d)] : List Value).toArray below meth c H locs 0 0 Q (F0 m 8 ls []) := by
    intro e9
    induction e9 with
    | zero =>
      intro h sd own oth u0 hhe hsd hO hQ he0 H locs hP hS ls hl hKo
      refine lv_iconst (v := -1) hx hb dX6_worthOf_8 (by decide) ?_
      refine lv_istore (lv' := [(4, .int (-1)), (3, .int (nI h)), (0, .ref bx), (1, .int s9), (2, .int (nI d))]) hx hb dX6_worthOf_9 hl (by decide) rfl (fun ls hl => ?_)
      refine lv_iload_n hx hb dX6_worthOf_11 rfl (lv_at hl 1 rfl) ?_
      refine lv_iload_n hx hb dX6_worthOf_12 rfl (lv_at hl 4 rfl) ?_
      refine lv_icmp_ne (tgt := 35) hx hb dX6_worthOf_13 (by decide) (fun c_13 => ?_) (fun c_13 => ?_)
      · skip
        have c_13 : ¬ h = d := fun h9 => c_13 ((nI_eq (a := h) (b := d) (by omega) (by omega)).mpr h9)
        exact absurd (by omega) c_13
      · skip
        have c_13 : h = d := (nI_eq (a := h) (b := d) (by omega) (by omega)).mp c_13
        refine lv_aload_n hx hb dX6_worthOf_16 rfl (lv_at hl 2 rfl) ?_
        refine lv_bipush (v := 32) hx hb dX6_worthOf_17 (by decide) ?_
        refine lv_iload_n hx hb dX6_worthOf_19 rfl (lv_at hl 1 rfl) ?_
        refine lv_imul hx hb dX6_worthOf_20 ?_
        refine zz_i (y := nI (32 * h)) (pk_mul 32 h) ?_
        refine lv_aload_n hx hb dX6_worthOf_21 rfl (lv_at hl 2 rfl) ?_
        refine va_get (D := (dC, dI)) (ci := 3) (v := .ref bs) (C := RX6) (T := TX6) (N := 19) hx hb hts hinX6 hown hK hP 0 rfl rfl 13 (by decide) (hts (.fieldLink RX6 38 "RoyalUrTableModel" "sides" "[I") (List.mem_of_getElem? (i := 1) rfl)) (fun _ h9 => h9) rfl dX6_worthOf_22 ?_
        refine lv_iload_n hx hb dX6_worthOf_25 rfl (lv_at hl 1 rfl) ?_
        refine zi_iald hx hb hK hP 4 0 rfl rfl (j := h) rfl (by omega) (by decide) dX6_worthOf_26 ?_
        refine zz_i (y := nI sd) he0.1 ?_
        refine zro_i (va_runV (As := [.int (nI (32 * h)), .int (nI sd)]) (rest := []) ⟨hx, hb, hml, hown, hts⟩ (c_X6_leaf l dC dI cyI cyJ k hk1 bx bl ba bt bg be bf bw bs bm bn bb bu bh thr sI tI wI cI u0.1 ff (32 * h) sd own oth (by omega) (by omega) he0.2.2.2.2.2 hO hQ hff) (cwV 2 hts gX6_worthOf_X6_leaf rfl rfl rfl (by decide +kernel) ⟨Nat.le_of_ble_eq_true rfl, Nat.le_of_ble_eq_true rfl⟩) (zPc_V (ci := 3) (q0 := 0) zB_T hP hK rfl rfl [0, 3, 2] rfl (fun _ _ _ => trivial)) rfl rfl hl.1 rfl (lv_room (Nat.le_of_ble_eq_true rfl)) dX6_worthOf_27 ⟨Nat.zero_le _, Nat.zero_le _⟩) hP hS (fun H locs hP hS => ?_)
        refine lv_istore (lv' := [(4, .int (nI (zLf k own oth))), (3, .int (nI h)), (0, .ref bx), (1, .int s9), (2, .int (nI d))]) hx hb dX6_worthOf_30 hl (by decide) rfl (fun ls hl => ?_)
        refine lv_goto (tgt := 129) hx hb dX6_worthOf_32 (by decide) ?_
        exact hKo u0 (zAg_r _ _) rfl _ _ hP hS _ (lv_sub hl [0, 1, 2, 3, 4] rfl)
    | succ e9 ihE =>
      intro h sd own oth u0 hhe hsd hO hQ he0 H locs hP hS ls hl hKo
      have hfl : ∀ m, m ≤ 4 → (zBT (zV k e9) own oth) m ≤ 1000000000 := fun m _ => zBT_le (zV_le k e9) _ _ _
      have stt : ∀ (n9 mm f0 ps : Nat) (u1 : zU), zStt k e9 h sd own oth mm f0 ps u0 u1 → (4 - mm) * 40 + (15 - f0) * 2 + ps < n9 → ∀ (H : Heap) (locs : List Loc), va_P (dC, dI) vwCl [(bx, .inr (3, [.int thr, .int (nI k), .int sI, .int tI, .int wI, .int cI, .ref bl, .ref ba, .ref bt, .ref bg, .ref be, .ref bf, .ref bw, .ref bs, .ref bm, .ref bn, .ref bb, .ref bu, .ref bh])), (bt, .inl (cyI, 5, .inl tf)), (bf, .inl (cyI, 225, .inl ff)), (bw, .inl (cyI, 160, .inl u1.1)), (bs, .inl (cyI, 5, .inl u1.2.1)), (bm, .inl (cyI, 5, .inl u1.2.2.1)), (bn, .inl (cyI, 5, .inl u1.2.2.2.1)), (bb, .inl (cyI, 5, .inl u1.2.2.2.2.1)), (bu, .inl (cyJ, 5, .inr (.inl u1.2.2.2.2.2)))] H → va_S (zA [bx, bt, bf, bw, bs, bm, bn, bb, bu]) s.heap H locs → ∀ ls : Array Slot, lv_has ls 5 [(3, .int (nI h)), (0, .ref bx), (1, .int s9), (2, .int (nI d))] → W p l e (headSpec wsX6_worthOf ({ frames := 4, cells := 0, slots := 0, locals := 94 })).room s m ([.ref bx, .int s9, .int (nI d)] : List Value).toArray below meth c H locs 0 0 Q (F0 m 8 ls []) := by
        intro n9
        induction n9 with
        | zero => intro mm f0 ps u1 hst hm9; exact absurd hm9 (Nat.not_lt_zero _)
        | succ n9 ihS =>
          intro mm f0 ps u1 hst hm9 H locs hP hS ls hl
          have hmm := hst.1
          have hf15 := hst.2.1
          have hps := hst.2.2.1
          refine lv_iconst (v := -1) hx hb dX6_worthOf_8 (by decide) ?_
          refine lv_istore (lv' := [(4, .int (-1)), (3, .int (nI h)), (0, .ref bx), (1, .int s9), (2, .int (nI d))]) hx hb dX6_worthOf_9 hl (by decide) rfl (fun ls hl => ?_)
          refine lv_iload_n hx hb dX6_worthOf_11 rfl (lv_at hl 1 rfl) ?_
          refine lv_iload_n hx hb dX6_worthOf_12 rfl (lv_at hl 4 rfl) ?_
          refine lv_icmp_ne (tgt := 35) hx hb dX6_worthOf_13 (by decide) (fun c_13 => ?_) (fun c_13 => ?_)
          · skip
            have c_13 : ¬ h = d := fun h9 => c_13 ((nI_eq (a := h) (b := d) (by omega) (by omega)).mpr h9)
            refine lv_aload_n hx hb dX6_worthOf_35 rfl (lv_at hl 2 rfl) ?_
            refine lv_iload_n hx hb dX6_worthOf_36 rfl (lv_at hl 1 rfl) ?_
            refine zrw_i (w1 := fun u : zU => [(bx, .inr (3, [.int thr, .int (nI k), .int sI, .int tI, .int wI, .int cI, .ref bl, .ref ba, .ref bt, .ref bg, .ref be, .ref bf, .ref bw, .ref bs, .ref bm, .ref bn, .ref bb, .ref bu, .ref bh])), (bw, .inl (cyI, 160, .inl u.1)), (bs, .inl (cyI, 5, .inl u.2.1)), (bm, .inl (cyI, 5, .inl u.2.2.1)), (bn, .inl (cyI, 5, .inl u.2.2.2.1)), (bb, .inl (cyI, 5, .inl u.2.2.2.2.1)), (bu, .inl (cyJ, 5, .inr (.inl u.2.2.2.2.2)))]) (al := [bx, bw, bs, bm, bn, bb, bu]) (va_runV (As := [.int (nI h)]) (rest := []) ⟨hx, hb, hml, hown, hts⟩ (c_X6_goesOn l dC dI cyI cyJ k bx bl ba bt bg be bf bw bs bm bn bb bu bh thr sI tI wI cI u1 e9 h sd own oth mm f0 (by omega) hsd hst.1 hst.2.1 hO hQ hst.2.2.2.2.2.2.2.2.2 hst.2.2.2.2.1 hst.2.2.2.2.2.1 hst.2.2.2.2.2.2.1 (zStt_go hst) (z_nd hDD.1 [0, 3, 4, 5, 6, 7, 8] (by decide) rfl)) (cwV 1 hts gX6_worthOf_X6_goesOn rfl rfl rfl (by decide +kernel) ⟨Nat.le_of_ble_eq_true rfl, Nat.le_of_ble_eq_true rfl⟩) (zPc_V (ci := 3) (q0 := 0) zB_T hP hK rfl rfl [0, 3, 4, 5, 6, 7, 8] rfl (fun _ _ _ => trivial)) rfl rfl hl.1 rfl (lv_room (Nat.le_of_ble_eq_true rfl)) dX6_worthOf_37 ⟨Nat.zero_le _, Nat.zero_le _⟩) hP hDD hS [0, 3, 4, 5, 6, 7, 8] rfl (fun _ => rfl) (fun r_37 u_37 H locs hw_37 hP hS => ?_)
            have hP : va_P (dC, dI) vwCl [(bx, .inr (3, [.int thr, .int (nI k), .int sI, .int tI, .int wI, .int cI, .ref bl, .ref ba, .ref bt, .ref bg, .ref be, .ref bf, .ref bw, .ref bs, .ref bm, .ref bn, .ref bb, .ref bu, .ref bh])), (bt, .inl (cyI, 5, .inl tf)), (bf, .inl (cyI, 225, .inl ff)), (bw, .inl (cyI, 160, .inl u_37.1)), (bs, .inl (cyI, 5, .inl u_37.2.1)), (bm, .inl (cyI, 5, .inl u_37.2.2.1)), (bn, .inl (cyI, 5, .inl u_37.2.2.2.1)), (bb, .inl (cyI, 5, .inl u_37.2.2.2.2.1)), (bu, .inl (cyJ, 5, .inr (.inl u_37.2.2.2.2.2)))] H := hP
            obtain ⟨hkp, hpo⟩ := hw_37
            rcases hpo with ⟨hr9, fr, hfr0, hfr, hcm, hnh, hnx, hbi, he⟩ | ⟨hr9, hhas, hbi, hnx, hbb, he⟩ | ⟨hr9, hpc⟩
            · skip
              obtain ⟨hm0, hd0, hto⟩ := zcm_spec hcm
              have hO2 : zok k (zsh own fr (fr + mm)) := zok_sh hO hd0 (by omega) (by omega) (by omega)
              have hQ2 : zok k (if ztk oth (fr + mm) = true then zsh oth (fr + mm) 0 else oth) := zok_tk hQ hto
              rcases he with ⟨hro, he⟩ | ⟨hro, he⟩
              · skip
                refine zz_i (y := 1) hr9 ?_
                refine lv_if_eq (tgt := 49) hx hb dX6_worthOf_40 (by decide) (fun c9 => absurd c9 (by decide)) (fun _ => ?_)
                refine lv_iinc (v := nI (h + 1)) (lv' := [(3, .int (nI (h + 1))), (4, .int (-1)), (0, .ref bx), (1, .int s9), (2, .int (nI d))]) hx hb dX6_worthOf_43 hl (k := 1) rfl (nI_1 h) (by decide) rfl (fun ls hl => ?_)
                refine lv_goto (tgt := 129) hx hb dX6_worthOf_46 (by decide) ?_
                refine lv_iload hx hb dX6_worthOf_129 (lv_at hl 1 rfl) ?_
                refine lv_iconst (v := -1) hx hb dX6_worthOf_131 (by decide) ?_
                refine lv_icmp_eq (tgt := 142) hx hb dX6_worthOf_132 (by decide) (fun _ => ?_) (fun c9 => absurd c9 (by decide))
                refine lv_iload hx hb dX6_worthOf_142 (lv_at hl 1 rfl) ?_
                refine lv_iconst (v := -1) hx hb dX6_worthOf_144 (by decide) ?_
                refine lv_icmp_eq (tgt := 166) hx hb dX6_worthOf_145 (by decide) (fun _ => ?_) (fun c9 => absurd c9 (by decide))
                refine lv_goto (tgt := 8) hx hb dX6_worthOf_166 (by decide) ?_
                refine ihE (h + 1) sd (zsh own fr (fr + mm)) (if ztk oth (fr + mm) = true then zsh oth (fr + mm) 0 else oth) u_37 (by omega) (by omega) hO2 hQ2 he _ _ hP hS _ (lv_sub hl [0, 2, 3, 4] rfl) (fun u2 hag hs2 H locs hP hS ls hl => ?_)
                have hVl := zV_le k e9 (zsh own fr (fr + mm)) (if ztk oth (fr + mm) = true then zsh oth (fr + mm) 0 else oth)
                refine lv_iload hx hb dX6_worthOf_129 (lv_at hl 0 rfl) ?_
                refine lv_iconst (v := -1) hx hb dX6_worthOf_131 (by decide) ?_
                refine lv_icmp_eq (tgt := 142) hx hb dX6_worthOf_132 (by decide) (fun c_132 => ?_) (fun c_132 => ?_)
                · skip
                  exact absurd c_132 (nI_nm hVl)
                · skip
                  refine lv_iload_n hx hb dX6_worthOf_135 rfl (lv_at hl 1 rfl) ?_
                  refine lv_if_ne (tgt := 142) hx hb dX6_worthOf_136 (by decide) (fun c_136 => ?_) (fun c_136 => ?_)
                  · skip
                    have c_136 : ¬ (h + 1) = 0 := fun h9 => c_136 ((nI_eq (a := h + 1) (b := 0) (by omega) (by omega)).mpr h9)
                    refine lv_iload hx hb dX6_worthOf_142 (lv_at hl 0 rfl) ?_
                    refine lv_iconst (v := -1) hx hb dX6_worthOf_144 (by decide) ?_
                    refine lv_icmp_eq (tgt := 166) hx hb dX6_worthOf_145 (by decide) (fun c_145 => ?_) (fun c_145 => ?_)
                    · skip
                      exact absurd c_145 (nI_nm hVl)
                    · skip
                      refine lv_iinc (v := nI h) (lv' := [(3, .int (nI h)), (4, .int (nI (zV k e9 (zsh own fr (fr + mm)) (if ztk oth (fr + mm) = true then zsh oth (fr + mm) 0 else oth)))), (0, .ref bx), (1, .int s9), (2, .int (nI d))]) hx hb dX6_worthOf_148 hl (k := 1) rfl (pk_m1 h) (by decide) rfl (fun ls hl => ?_)
                      refine lv_aload_n hx hb dX6_worthOf_151 rfl (lv_at hl 2 rfl) ?_
                      refine lv_iload_n hx hb dX6_worthOf_152 rfl (lv_at hl 0 rfl) ?_
                      refine lv_aload_n hx hb dX6_worthOf_153 rfl (lv_at hl 2 rfl) ?_
                      refine va_get (D := (dC, dI)) (ci := 3) (v := .ref bs) (C := RX6) (T := TX6) (N := 19) hx hb hts hinX6 hown hK hP 0 rfl rfl 13 (by decide) (hts (.fieldLink RX6 38 "RoyalUrTableModel" "sides" "[I") (List.mem_of_getElem? (i := 1) rfl)) (fun _ h9 => h9) rfl dX6_worthOf_154 ?_
                      refine lv_iload_n hx hb dX6_worthOf_157 rfl (lv_at hl 0 rfl) ?_
                      refine lv_iconst (v := 1) hx hb dX6_worthOf_158 (by decide) ?_
                      refine lv_iadd hx hb dX6_worthOf_159 ?_
                      refine zz_i (y := nI (h + 1)) (nI_add h 1) ?_
                      refine zi_iald hx hb hK hP 4 0 rfl rfl (j := h + 1) rfl (by omega) (by decide) dX6_worthOf_160 ?_
                      refine zz_i (y := nI sd) (hs2.trans he.1) ?_
                      refine lv_iload hx hb dX6_worthOf_161 (lv_at hl 1 rfl) ?_
                      refine zrw_v (w1 := fun _ : Unit => [(bx, .inr (3, [.int thr, .int (nI k), .int sI, .int tI, .int wI, .int cI, .ref bl, .ref ba, .ref bt, .ref bg, .ref be, .ref bf, .ref bw, .ref bs, .ref bm, .ref bn, .ref bb, .ref bu, .ref bh])), (bs, .inl (cyI, 5, .inl u2.2.1)), (bb, .inl (cyI, 5, .inl (upd u2.2.2.2.2.1 h (zMx (u2.2.2.2.2.1 h) (zIts (u2.2.1 h) (nI sd) (nI (zV k e9 (zsh own fr (fr + mm)) (if ztk oth (fr + mm) = true then zsh oth (fr + mm) 0 else oth))))))))]) (al := [bx, bs, bb]) (va_runV (As := [.int (nI h), .int (nI sd), .int (nI (zV k e9 (zsh own fr (fr + mm)) (if ztk oth (fr + mm) = true then zsh oth (fr + mm) 0 else oth)))]) (rest := []) ⟨hx, hb, hml, hown, hts⟩ (c_X6_takes l dC dI cyI cyJ k bx bl ba bt bg be bf bw bs bm bn bb bu bh thr sI tI wI cI u2.2.1 u2.2.2.2.2.1 h (by omega) (nI sd) (nI (zV k e9 (zsh own fr (fr + mm)) (if ztk oth (fr + mm) = true then zsh oth (fr + mm) 0 else oth))) (z_nd hDD.1 [0, 4, 7] (by decide) rfl)) (cwV 3 hts gX6_worthOf_X6_takes rfl rfl rfl (by decide +kernel) ⟨Nat.le_of_ble_eq_true rfl, Nat.le_of_ble_eq_true rfl⟩) (zPc_V (ci := 3) (q0 := 0) zB_T hP hK rfl rfl [0, 4, 7] rfl (fun _ _ _ => trivial)) rfl rfl hl.1 rfl (lv_room (Nat.le_of_ble_eq_true rfl)) dX6_worthOf_163 ⟨Nat.zero_le _, Nat.zero_le _⟩) hP hDD hS [0, 4, 7] rfl (fun _ => rfl) (fun u_163 H locs hw_163 hP hS => ?_)
                      have hP : va_P (dC, dI) vwCl [(bx, .inr (3, [.int thr, .int (nI k), .int sI, .int tI, .int wI, .int cI, .ref bl, .ref ba, .ref bt, .ref bg, .ref be, .ref bf, .ref bw, .ref bs, .ref bm, .ref bn, .ref bb, .ref bu, .ref bh])), (bt, .inl (cyI, 5, .inl tf)), (bf, .inl (cyI, 225, .inl ff)), (bw, .inl (cyI, 160, .inl u2.1)), (bs, .inl (cyI, 5, .inl u2.2.1)), (bm, .inl (cyI, 5, .inl u2.2.2.1)), (bn, .inl (cyI, 5, .inl u2.2.2.2.1)), (bb, .inl (cyI, 5, .inl (upd u2.2.2.2.2.1 h (zMx (u2.2.2.2.2.1 h) (zIts (u2.2.1 h) (nI sd) (nI (zV k e9 (zsh own fr (fr + mm)) (if ztk oth (fr + mm) = true then zsh oth (fr + mm) 0 else oth)))))))), (bu, .inl (cyJ, 5, .inr (.inl u2.2.2.2.2.2)))] H := hP
                      refine lv_goto (tgt := 8) hx hb dX6_worthOf_166 (by decide) ?_
                      exact ihS mm (fr + 1) 1 _ (zStt_A hsd hst hkp hfr hcm hnx hbi hag (by rw [show u2.2.1 h = nI sd from (hag.2 h (by omega)).1.trans (hkp.2.2.1.trans hst.2.2.2.2.1), zIts_s, zBM_r hnh hro])) (by omega) _ _ hP hS _ (lv_sub hl [0, 2, 3, 4] rfl)
                  · skip
                    have c_136 : (h + 1) = 0 := (nI_eq (a := h + 1) (b := 0) (by omega) (by omega)).mp c_136
                    exact absurd c_136 (by omega)
              · skip
                refine zz_i (y := 1) hr9 ?_
                refine lv_if_eq (tgt := 49) hx hb dX6_worthOf_40 (by decide) (fun c9 => absurd c9 (by decide)) (fun _ => ?_)
                refine lv_iinc (v := nI (h + 1)) (lv' := [(3, .int (nI (h + 1))), (4, .int (-1)), (0, .ref bx), (1, .int s9), (2, .int (nI d))]) hx hb dX6_worthOf_43 hl (k := 1) rfl (nI_1 h) (by decide) rfl (fun ls hl => ?_)
                refine lv_goto (tgt := 129) hx hb dX6_worthOf_46 (by decide) ?_
                refine lv_iload hx hb dX6_worthOf_129 (lv_at hl 1 rfl) ?_
                refine lv_iconst (v := -1) hx hb dX6_worthOf_131 (by decide) ?_
                refine lv_icmp_eq (tgt := 142) hx hb dX6_worthOf_132 (by decide) (fun _ => ?_) (fun c9 => absurd c9 (by decide))
                refine lv_iload hx hb dX6_worthOf_142 (lv_at hl 1 rfl) ?_
                refine lv_iconst (v := -1) hx hb dX6_worthOf_144 (by decide) ?_
                refine lv_icmp_eq (tgt := 166) hx hb dX6_worthOf_145 (by decide) (fun _ => ?_) (fun c9 => absurd c9 (by decide))
                refine lv_goto (tgt := 8) hx hb dX6_worthOf_166 (by decide) ?_
                refine ihE (h + 1) (1 - sd) (if ztk oth (fr + mm) = true then zsh oth (fr + mm) 0 else oth) (zsh own fr (fr + mm)) u_37 (by omega) (by omega) hQ2 hO2 he _ _ hP hS _ (lv_sub hl [0, 2, 3, 4] rfl) (fun u2 hag hs2 H locs hP hS ls hl => ?_)
                have hVl := zV_le k e9 (if ztk oth (fr + mm) = true then zsh oth (fr + mm) 0 else oth) (zsh own fr (fr + mm))
                refine lv_iload hx hb dX6_worthOf_129 (lv_at hl 0 rfl) ?_
                refine lv_iconst (v := -1) hx hb dX6_worthOf_131 (by decide) ?_
                refine lv_icmp_eq (tgt := 142) hx hb dX6_worthOf_132 (by decide) (fun c_132 => ?_) (fun c_132 => ?_)
                · skip
                  exact absurd c_132 (nI_nm hVl)
                · skip
                  refine lv_iload_n hx hb dX6_worthOf_135 rfl (lv_at hl 1 rfl) ?_
                  refine lv_if_ne (tgt := 142) hx hb dX6_worthOf_136 (by decide) (fun c_136 => ?_) (fun c_136 => ?_)
                  · skip
                    have c_136 : ¬ (h + 1) = 0 := fun h9 => c_136 ((nI_eq (a := h + 1) (b := 0) (by omega) (by omega)).mpr h9)
                    refine lv_iload hx hb dX6_worthOf_142 (lv_at hl 0 rfl) ?_
                    refine lv_iconst (v := -1) hx hb dX6_worthOf_144 (by decide) ?_
                    refine lv_icmp_eq (tgt := 166) hx hb dX6_worthOf_145 (by decide) (fun c_145 => ?_) (fun c_145 => ?_)
                    · skip
                      exact absurd c_145 (nI_nm hVl)
                    · skip
                      refine lv_iinc (v := nI h) (lv' := [(3, .int (nI h)), (4, .int (nI (zV k e9 (if ztk oth (fr + mm) = true then zsh oth (fr + mm) 0 else oth) (zsh own fr (fr + mm))))), (0, .ref bx), (1, .int s9), (2, .int (nI d))]) hx hb dX6_worthOf_148 hl (k := 1) rfl (pk_m1 h) (by decide) rfl (fun ls hl => ?_)
                      refine lv_aload_n hx hb dX6_worthOf_151 rfl (lv_at hl 2 rfl) ?_
                      refine lv_iload_n hx hb dX6_worthOf_152 rfl (lv_at hl 0 rfl) ?_
                      refine lv_aload_n hx hb dX6_worthOf_153 rfl (lv_at hl 2 rfl) ?_
                      refine va_get (D := (dC, dI)) (ci := 3) (v := .ref bs) (C := RX6) (T := TX6) (N := 19) hx hb hts hinX6 hown hK hP 0 rfl rfl 13 (by decide) (hts (.fieldLink RX6 38 "RoyalUrTableModel" "sides" "[I") (List.mem_of_getElem? (i := 1) rfl)) (fun _ h9 => h9) rfl dX6_worthOf_154 ?_
                      refine lv_iload_n hx hb dX6_worthOf_157 rfl (lv_at hl 0 rfl) ?_
                      refine lv_iconst (v := 1) hx hb dX6_worthOf_158 (by decide) ?_
                      refine lv_iadd hx hb dX6_worthOf_159 ?_
                      refine zz_i (y := nI (h + 1)) (nI_add h 1) ?_
                      refine zi_iald hx hb hK hP 4 0 rfl rfl (j := h + 1) rfl (by omega) (by decide) dX6_worthOf_160 ?_
                      refine zz_i (y := nI (1 - sd)) (hs2.trans he.1) ?_
                      refine lv_iload hx hb dX6_worthOf_161 (lv_at hl 1 rfl) ?_
                      refine zrw_v (w1 := fun _ : Unit => [(bx, .inr (3, [.int thr, .int (nI k), .int sI, .int tI, .int wI, .int cI, .ref bl, .ref ba, .ref bt, .ref bg, .ref be, .ref bf, .ref bw, .ref bs, .ref bm, .ref bn, .ref bb, .ref bu, .ref bh])), (bs, .inl (cyI, 5, .inl u2.2.1)), (bb, .inl (cyI, 5, .inl (upd u2.2.2.2.2.1 h (zMx (u2.2.2.2.2.1 h) (zIts (u2.2.1 h) (nI (1 - sd)) (nI (zV k e9 (if ztk oth (fr + mm) = true then zsh oth (fr + mm) 0 else oth) (zsh own fr (fr + mm)))))))))]) (al := [bx, bs, bb]) (va_runV (As := [.int (nI h), .int (nI (1 - sd)), .int (nI (zV k e9 (if ztk oth (fr + mm) = true then zsh oth (fr + mm) 0 else oth) (zsh own fr (fr + mm))))]) (rest := []) ⟨hx, hb, hml, hown, hts⟩ (c_X6_takes l dC dI cyI cyJ k bx bl ba bt bg be bf bw bs bm bn bb bu bh thr sI tI wI cI u2.2.1 u2.2.2.2.2.1 h (by omega) (nI (1 - sd)) (nI (zV k e9 (if ztk oth (fr + mm) = true then zsh oth (fr + mm) 0 else oth) (zsh own fr (fr + mm)))) (z_nd hDD.1 [0, 4, 7] (by decide) rfl)) (cwV 3 hts gX6_worthOf_X6_takes rfl rfl rfl (by decide +kernel) ⟨Nat.le_of_ble_eq_true rfl, Nat.le_of_ble_eq_true rfl⟩) (zPc_V (ci := 3) (q0 := 0) zB_T hP hK rfl rfl [0, 4, 7] rfl (fun _ _ _ => trivial)) rfl rfl hl.1 rfl (lv_room (Nat.le_of_ble_eq_true rfl)) dX6_worthOf_163 ⟨Nat.zero_le _, Nat.zero_le _⟩) hP hDD hS [0, 4, 7] rfl (fun _ => rfl) (fun u_163 H locs hw_163 hP hS => ?_)
                      have hP : va_P (dC, dI) vwCl [(bx, .inr (3, [.int thr, .int (nI k), .int sI, .int tI, .int wI, .int cI, .ref bl, .ref ba, .ref bt, .ref bg, .ref be, .ref bf, .ref bw, .ref bs, .ref bm, .ref bn, .ref bb, .ref bu, .ref bh])), (bt, .inl (cyI, 5, .inl tf)), (bf, .inl (cyI, 225, .inl ff)), (bw, .inl (cyI, 160, .inl u2.1)), (bs, .inl (cyI, 5, .inl u2.2.1)), (bm, .inl (cyI, 5, .inl u2.2.2.1)), (bn, .inl (cyI, 5, .inl u2.2.2.2.1)), (bb, .inl (cyI, 5, .inl (upd u2.2.2.2.2.1 h (zMx (u2.2.2.2.2.1 h) (zIts (u2.2.1 h) (nI (1 - sd)) (nI (zV k e9 (if ztk oth (fr + mm) = true then zsh oth (fr + mm) 0 else oth) (zsh own fr (fr + mm))))))))), (bu, .inl (cyJ, 5, .inr (.inl u2.2.2.2.2.2)))] H := hP
                      refine lv_goto (tgt := 8) hx hb dX6_worthOf_166 (by decide) ?_
                      exact ihS mm (fr + 1) 1 _ (zStt_A hsd hst hkp hfr hcm hnx hbi hag (by rw [show u2.2.1 h = nI sd from (hag.2 h (by omega)).1.trans (hkp.2.2.1.trans hst.2.2.2.2.1), zIts_o hsd hVl, zBM_o hnh hro])) (by omega) _ _ hP hS _ (lv_sub hl [0, 2, 3, 4] rfl)
                  · skip
                    have c_136 : (h + 1) = 0 := (nI_eq (a := h + 1) (b := 0) (by omega) (by omega)).mp c_136
                    exact absurd c_136 (by omega)
            · skip
              have hps1 : 1 ≤ ps ∨ f0 < 15 := zStt_p hst hbi hhas
              refine zz_i (y := 1) hr9 ?_
              refine lv_if_eq (tgt := 49) hx hb dX6_worthOf_40 (by decide) (fun c9 => absurd c9 (by decide)) (fun _ => ?_)
              refine lv_iinc (v := nI (h + 1)) (lv' := [(3, .int (nI (h + 1))), (4, .int (-1)), (0, .ref bx), (1, .int s9), (2, .int (nI d))]) hx hb dX6_worthOf_43 hl (k := 1) rfl (nI_1 h) (by decide) rfl (fun ls hl => ?_)
              refine lv_goto (tgt := 129) hx hb dX6_worthOf_46 (by decide) ?_
              refine lv_iload hx hb dX6_worthOf_129 (lv_at hl 1 rfl) ?_
              refine lv_iconst (v := -1) hx hb dX6_worthOf_131 (by decide) ?_
              refine lv_icmp_eq (tgt := 142) hx hb dX6_worthOf_132 (by decide) (fun _ => ?_) (fun c9 => absurd c9 (by decide))
              refine lv_iload hx hb dX6_worthOf_142 (lv_at hl 1 rfl) ?_
              refine lv_iconst (v := -1) hx hb dX6_worthOf_144 (by decide) ?_
              refine lv_icmp_eq (tgt := 166) hx hb dX6_worthOf_145 (by decide) (fun _ => ?_) (fun c9 => absurd c9 (by decide))
              refine lv_goto (tgt := 8) hx hb dX6_worthOf_166 (by decide) ?_
              refine ihE (h + 1) (1 - sd) oth own u_37 (by omega) (by omega) hQ hO he _ _ hP hS _ (lv_sub hl [0, 2, 3, 4] rfl) (fun u2 hag hs2 H locs hP hS ls hl => ?_)
              have hVl := zV_le k e9 oth own
              refine lv_iload hx hb dX6_worthOf_129 (lv_at hl 0 rfl) ?_
              refine lv_iconst (v := -1) hx hb dX6_worthOf_131 (by decide) ?_
              refine lv_icmp_eq (tgt := 142) hx hb dX6_worthOf_132 (by decide) (fun c_132 => ?_) (fun c_132 => ?_)
              · skip
                exact absurd c_132 (nI_nm hVl)
              · skip
                refine lv_iload_n hx hb dX6_worthOf_135 rfl (lv_at hl 1 rfl) ?_
                refine lv_if_ne (tgt := 142) hx hb dX6_worthOf_136 (by decide) (fun c_136 => ?_) (fun c_136 => ?_)
                · skip
                  have c_136 : ¬ (h + 1) = 0 := fun h9 => c_136 ((nI_eq (a := h + 1) (b := 0) (by omega) (by omega)).mpr h9)
                  refine lv_iload hx hb dX6_worthOf_142 (lv_at hl 0 rfl) ?_
                  refine lv_iconst (v := -1) hx hb dX6_worthOf_144 (by decide) ?_
                  refine lv_icmp_eq (tgt := 166) hx hb dX6_worthOf_145 (by decide) (fun c_145 => ?_) (fun c_145 => ?_)
                  · skip
                    exact absurd c_145 (nI_nm hVl)
                  · skip
                    refine lv_iinc (v := nI h) (lv' := [(3, .int (nI h)), (4, .int (nI (zV k e9 oth own))), (0, .ref bx), (1, .int s9), (2, .int (nI d))]) hx hb dX6_worthOf_148 hl (k := 1) rfl (pk_m1 h) (by decide) rfl (fun ls hl => ?_)
                    refine lv_aload_n hx hb dX6_worthOf_151 rfl (lv_at hl 2 rfl) ?_
                    refine lv_iload_n hx hb dX6_worthOf_152 rfl (lv_at hl 0 rfl) ?_
                    refine lv_aload_n hx hb dX6_worthOf_153 rfl (lv_at hl 2 rfl) ?_
                    refine va_get (D := (dC, dI)) (ci := 3) (v := .ref bs) (C := RX6) (T := TX6) (N := 19) hx hb hts hinX6 hown hK hP 0 rfl rfl 13 (by decide) (hts (.fieldLink RX6 38 "RoyalUrTableModel" "sides" "[I") (List.mem_of_getElem? (i := 1) rfl)) (fun _ h9 => h9) rfl dX6_worthOf_154 ?_
                    refine lv_iload_n hx hb dX6_worthOf_157 rfl (lv_at hl 0 rfl) ?_
                    refine lv_iconst (v := 1) hx hb dX6_worthOf_158 (by decide) ?_
                    refine lv_iadd hx hb dX6_worthOf_159 ?_
                    refine zz_i (y := nI (h + 1)) (nI_add h 1) ?_
                    refine zi_iald hx hb hK hP 4 0 rfl rfl (j := h + 1) rfl (by omega) (by decide) dX6_worthOf_160 ?_
                    refine zz_i (y := nI (1 - sd)) (hs2.trans he.1) ?_
                    refine lv_iload hx hb dX6_worthOf_161 (lv_at hl 1 rfl) ?_
                    refine zrw_v (w1 := fun _ : Unit => [(bx, .inr (3, [.int thr, .int (nI k), .int sI, .int tI, .int wI, .int cI, .ref bl, .ref ba, .ref bt, .ref bg, .ref be, .ref bf, .ref bw, .ref bs, .ref bm, .ref bn, .ref bb, .ref bu, .ref bh])), (bs, .inl (cyI, 5, .inl u2.2.1)), (bb, .inl (cyI, 5, .inl (upd u2.2.2.2.2.1 h (zMx (u2.2.2.2.2.1 h) (zIts (u2.2.1 h) (nI (1 - sd)) (nI (zV k e9 oth own)))))))]) (al := [bx, bs, bb]) (va_runV (As := [.int (nI h), .int (nI (1 - sd)), .int (nI (zV k e9 oth own))]) (rest := []) ⟨hx, hb, hml, hown, hts⟩ (c_X6_takes l dC dI cyI cyJ k bx bl ba bt bg be bf bw bs bm bn bb bu bh thr sI tI wI cI u2.2.1 u2.2.2.2.2.1 h (by omega) (nI (1 - sd)) (nI (zV k e9 oth own)) (z_nd hDD.1 [0, 4, 7] (by decide) rfl)) (cwV 3 hts gX6_worthOf_X6_takes rfl rfl rfl (by decide +kernel) ⟨Nat.le_of_ble_eq_true rfl, Nat.le_of_ble_eq_true rfl⟩) (zPc_V (ci := 3) (q0 := 0) zB_T hP hK rfl rfl [0, 4, 7] rfl (fun _ _ _ => trivial)) rfl rfl hl.1 rfl (lv_room (Nat.le_of_ble_eq_true rfl)) dX6_worthOf_163 ⟨Nat.zero_le _, Nat.zero_le _⟩) hP hDD hS [0, 4, 7] rfl (fun _ => rfl) (fun u_163 H locs hw_163 hP hS => ?_)
                    have hP : va_P (dC, dI) vwCl [(bx, .inr (3, [.int thr, .int (nI k), .int sI, .int tI, .int wI, .int cI, .ref bl, .ref ba, .ref bt, .ref bg, .ref be, .ref bf, .ref bw, .ref bs, .ref bm, .ref bn, .ref bb, .ref bu, .ref bh])), (bt, .inl (cyI, 5, .inl tf)), (bf, .inl (cyI, 225, .inl ff)), (bw, .inl (cyI, 160, .inl u2.1)), (bs, .inl (cyI, 5, .inl u2.2.1)), (bm, .inl (cyI, 5, .inl u2.2.2.1)), (bn, .inl (cyI, 5, .inl u2.2.2.2.1)), (bb, .inl (cyI, 5, .inl (upd u2.2.2.2.2.1 h (zMx (u2.2.2.2.2.1 h) (zIts (u2.2.1 h) (nI (1 - sd)) (nI (zV k e9 oth own))))))), (bu, .inl (cyJ, 5, .inr (.inl u2.2.2.2.2.2)))] H := hP
                    refine lv_goto (tgt := 8) hx hb dX6_worthOf_166 (by decide) ?_
                    exact ihS mm 15 0 _ (zStt_B hsd hst hkp hhas hnx hbb hag (by rw [show u2.2.1 h = nI sd from (hag.2 h (by omega)).1.trans (hkp.2.2.1.trans hst.2.2.2.2.1), zIts_o hsd hVl])) (by omega) _ _ hP hS _ (lv_sub hl [0, 2, 3, 4] rfl)
                · skip
                  have c_136 : (h + 1) = 0 := (nI_eq (a := h + 1) (b := 0) (by omega) (by omega)).mp c_136
                  exact absurd c_136 (by omega)
            · skip
              have hbt := zStt_b hst hpc
              have hus : u_37.2.2.2.2.2 h = lN (zsm (zBT (zV k e9) own oth) mm) := hkp.2.2.2.2.trans hst.2.2.2.2.2.2.2.2.1
              have hmk9 : u_37.2.2.1 h = nI mm := hkp.2.2.2.1.trans hst.2.2.2.2.2.1
              refine zz_i (y := 0) hr9 ?_
              refine lv_if_eq (tgt := 49) hx hb dX6_worthOf_40 (by decide) (fun _ => ?_) (fun c9 => absurd c9 (by decide))
              refine lv_aload_n hx hb dX6_worthOf_49 rfl (lv_at hl 2 rfl) ?_
              refine va_get (D := (dC, dI)) (ci := 3) (v := .ref bu) (C := RX6) (T := TX6) (N := 19) hx hb hts hinX6 hown hK hP 0 rfl rfl 17 (by decide) (hts (.fieldLink RX6 50 "RoyalUrTableModel" "sums" "[J") (List.mem_of_getElem? (i := 2) rfl)) (fun _ h9 => h9) rfl dX6_worthOf_50 ?_
              refine lv_iload_n hx hb dX6_worthOf_53 rfl (lv_at hl 1 rfl) ?_
              refine lv_dup2_11 hx hb dX6_worthOf_54 rfl rfl ?_
              refine zi_lald hx hb hK hP 8 1 rfl rfl (j := h) rfl (by omega) (by decide) dX6_worthOf_55 ?_
              refine zz_l (y := lN (zsm (zBT (zV k e9) own oth) mm)) hus ?_
              refine lv_aload_n hx hb dX6_worthOf_56 rfl (lv_at hl 2 rfl) ?_
              refine va_get (D := (dC, dI)) (ci := 3) (v := .ref bt) (C := RX6) (T := TX6) (N := 19) hx hb hts hinX6 hown hK hP 0 rfl rfl 8 (by decide) (hts (.fieldLink RX6 23 "RoyalUrTableModel" "times" "[I") (List.mem_of_getElem? (i := 3) rfl)) (fun _ h9 => h9) rfl dX6_worthOf_57 ?_
              refine lv_aload_n hx hb dX6_worthOf_60 rfl (lv_at hl 2 rfl) ?_
              refine va_get (D := (dC, dI)) (ci := 3) (v := .ref bm) (C := RX6) (T := TX6) (N := 19) hx hb hts hinX6 hown hK hP 0 rfl rfl 14 (by decide) (hts (.fieldLink RX6 41 "RoyalUrTableModel" "marks" "[I") (List.mem_of_getElem? (i := 4) rfl)) (fun _ h9 => h9) rfl dX6_worthOf_61 ?_
              refine lv_iload_n hx hb dX6_worthOf_64 rfl (lv_at hl 1 rfl) ?_
              refine zi_iald hx hb hK hP 5 0 rfl rfl (j := h) rfl (by omega) (by decide) dX6_worthOf_65 ?_
              refine zz_i (y := nI mm) hmk9 ?_
              refine zi_iald hx hb hK hP 1 0 rfl rfl (j := mm) rfl (by omega) (by decide) dX6_worthOf_66 ?_
              refine zz_i (y := nI (ztm mm)) (htf mm (by omega)) ?_
              refine lv_i2l (v := (nI (ztm mm) : Int32).toInt64) hx hb dX6_worthOf_67 rfl ?_
              refine zz_l (y := lN (ztm mm)) (ztm_l mm) ?_
              refine lv_aload_n hx hb dX6_worthOf_68 rfl (lv_at hl 2 rfl) ?_
              refine va_get (D := (dC, dI)) (ci := 3) (v := .ref bb) (C := RX6) (T := TX6) (N := 19) hx hb hts hinX6 hown hK hP 0 rfl rfl 16 (by decide) (hts (.fieldLink RX6 47 "RoyalUrTableModel" "best" "[I") (List.mem_of_getElem? (i := 5) rfl)) (fun _ h9 => h9) rfl dX6_worthOf_69 ?_
              refine lv_iload_n hx hb dX6_worthOf_72 rfl (lv_at hl 1 rfl) ?_
              refine zi_iald hx hb hK hP 7 0 rfl rfl (j := h) rfl (by omega) (by decide) dX6_worthOf_73 ?_
              refine zz_i (y := nI ((zBT (zV k e9) own oth) mm)) hbt ?_
              refine lv_i2l (v := (nI ((zBT (zV k e9) own oth) mm) : Int32).toInt64) hx hb dX6_worthOf_74 rfl ?_
              refine zz_l (y := lN ((zBT (zV k e9) own oth) mm)) (nI_lw (hfl mm (by omega))) ?_
              refine lv_lmul hx hb dX6_worthOf_75 ?_
              refine lv_ladd hx hb dX6_worthOf_76 ?_
              refine zz_l (y := lN (zsm (zBT (zV k e9) own oth) (mm + 1))) (zsm_s (zBT (zV k e9) own oth) mm) ?_
              refine zi_last hx hb hK hP hDD hS 8 1 rfl rfl (j := h) rfl (by omega) (by decide) dX6_worthOf_77 (fun H locs hP hS => ?_)
              have hP : va_P (dC, dI) vwCl [(bx, .inr (3, [.int thr, .int (nI k), .int sI, .int tI, .int wI, .int cI, .ref bl, .ref ba, .ref bt, .ref bg, .ref be, .ref bf, .ref bw, .ref bs, .ref bm, .ref bn, .ref bb, .ref bu, .ref bh])), (bt, .inl (cyI, 5, .inl tf)), (bf, .inl (cyI, 225, .inl ff)), (bw, .inl (cyI, 160, .inl u_37.1)), (bs, .inl (cyI, 5, .inl u_37.2.1)), (bm, .inl (cyI, 5, .inl u_37.2.2.1)), (bn, .inl (cyI, 5, .inl u_37.2.2.2.1)), (bb, .inl (cyI, 5, .inl u_37.2.2.2.2.1)), (bu, .inl (cyJ, 5, .inr (.inl (vp_updL u_37.2.2.2.2.2 h (lN (zsm (zBT (zV k e9) own oth) (mm + 1)))))))] H := hP
              refine lv_aload_n hx hb dX6_worthOf_78 rfl (lv_at hl 2 rfl) ?_
              refine va_get (D := (dC, dI)) (ci := 3) (v := .ref bm) (C := RX6) (T := TX6) (N := 19) hx hb hts hinX6 hown hK hP 0 rfl rfl 14 (by decide) (hts (.fieldLink RX6 41 "RoyalUrTableModel" "marks" "[I") (List.mem_of_getElem? (i := 4) rfl)) (fun _ h9 => h9) rfl dX6_worthOf_79 ?_
              refine lv_iload_n hx hb dX6_worthOf_82 rfl (lv_at hl 1 rfl) ?_
              refine lv_dup2_11 hx hb dX6_worthOf_83 rfl rfl ?_
              refine zi_iald hx hb hK hP 5 0 rfl rfl (j := h) rfl (by omega) (by decide) dX6_worthOf_84 ?_
              refine zz_i (y := nI mm) hmk9 ?_
              refine lv_iconst (v := 1) hx hb dX6_worthOf_85 (by decide) ?_
              refine lv_iadd hx hb dX6_worthOf_86 ?_
              refine zz_i (y := nI (mm + 1)) (nI_add mm 1) ?_
              refine zi_iast hx hb hK hP hDD hS 5 0 rfl rfl (j := h) rfl (by omega) (by decide) dX6_worthOf_87 (fun H locs hP hS => ?_)
              have hP : va_P (dC, dI) vwCl [(bx, .inr (3, [.int thr, .int (nI k), .int sI, .int tI, .int wI, .int cI, .ref bl, .ref ba, .ref bt, .ref bg, .ref be, .ref bf, .ref bw, .ref bs, .ref bm, .ref bn, .ref bb, .ref bu, .ref bh])), (bt, .inl (cyI, 5, .inl tf)), (bf, .inl (cyI, 225, .inl ff)), (bw, .inl (cyI, 160, .inl u_37.1)), (bs, .inl (cyI, 5, .inl u_37.2.1)), (bm, .inl (cyI, 5, .inl (upd u_37.2.2.1 h (nI (mm + 1))))), (bn, .inl (cyI, 5, .inl u_37.2.2.2.1)), (bb, .inl (cyI, 5, .inl u_37.2.2.2.2.1)), (bu, .inl (cyJ, 5, .inr (.inl (vp_updL u_37.2.2.2.2.2 h (lN (zsm (zBT (zV k e9) own oth) (mm + 1)))))))] H := hP
              refine lv_aload_n hx hb dX6_worthOf_88 rfl (lv_at hl 2 rfl) ?_
              refine va_get (D := (dC, dI)) (ci := 3) (v := .ref bn) (C := RX6) (T := TX6) (N := 19) hx hb hts hinX6 hown hK hP 0 rfl rfl 15 (by decide) (hts (.fieldLink RX6 44 "RoyalUrTableModel" "next" "[I") (List.mem_of_getElem? (i := 6) rfl)) (fun _ h9 => h9) rfl dX6_worthOf_89 ?_
              refine lv_iload_n hx hb dX6_worthOf_92 rfl (lv_at hl 1 rfl) ?_
              refine lv_iconst (v := 0) hx hb dX6_worthOf_93 (by decide) ?_
              refine zi_iast hx hb hK hP hDD hS 6 0 rfl rfl (j := h) rfl (by omega) (by decide) dX6_worthOf_94 (fun H locs hP hS => ?_)
              have hP : va_P (dC, dI) vwCl [(bx, .inr (3, [.int thr, .int (nI k), .int sI, .int tI, .int wI, .int cI, .ref bl, .ref ba, .ref bt, .ref bg, .ref be, .ref bf, .ref bw, .ref bs, .ref bm, .ref bn, .ref bb, .ref bu, .ref bh])), (bt, .inl (cyI, 5, .inl tf)), (bf, .inl (cyI, 225, .inl ff)), (bw, .inl (cyI, 160, .inl u_37.1)), (bs, .inl (cyI, 5, .inl u_37.2.1)), (bm, .inl (cyI, 5, .inl (upd u_37.2.2.1 h (nI (mm + 1))))), (bn, .inl (cyI, 5, .inl (upd u_37.2.2.2.1 h 0))), (bb, .inl (cyI, 5, .inl u_37.2.2.2.2.1)), (bu, .inl (cyJ, 5, .inr (.inl (vp_updL u_37.2.2.2.2.2 h (lN (zsm (zBT (zV k e9) own oth) (mm + 1)))))))] H := hP
              refine lv_aload_n hx hb dX6_worthOf_95 rfl (lv_at hl 2 rfl) ?_
              refine va_get (D := (dC, dI)) (ci := 3) (v := .ref bb) (C := RX6) (T := TX6) (N := 19) hx hb hts hinX6 hown hK hP 0 rfl rfl 16 (by decide) (hts (.fieldLink RX6 47 "RoyalUrTableModel" "best" "[I") (List.mem_of_getElem? (i := 5) rfl)) (fun _ h9 => h9) rfl dX6_worthOf_96 ?_
              refine lv_iload_n hx hb dX6_worthOf_99 rfl (lv_at hl 1 rfl) ?_
              refine lv_iconst (v := -1) hx hb dX6_worthOf_100 (by decide) ?_
              refine zi_iast hx hb hK hP hDD hS 7 0 rfl rfl (j := h) rfl (by omega) (by decide) dX6_worthOf_101 (fun H locs hP hS => ?_)
              have hP : va_P (dC, dI) vwCl [(bx, .inr (3, [.int thr, .int (nI k), .int sI, .int tI, .int wI, .int cI, .ref bl, .ref ba, .ref bt, .ref bg, .ref be, .ref bf, .ref bw, .ref bs, .ref bm, .ref bn, .ref bb, .ref bu, .ref bh])), (bt, .inl (cyI, 5, .inl tf)), (bf, .inl (cyI, 225, .inl ff)), (bw, .inl (cyI, 160, .inl u_37.1)), (bs, .inl (cyI, 5, .inl u_37.2.1)), (bm, .inl (cyI, 5, .inl (upd u_37.2.2.1 h (nI (mm + 1))))), (bn, .inl (cyI, 5, .inl (upd u_37.2.2.2.1 h 0))), (bb, .inl (cyI, 5, .inl (upd u_37.2.2.2.2.1 h (-1)))), (bu, .inl (cyJ, 5, .inr (.inl (vp_updL u_37.2.2.2.2.2 h (lN (zsm (zBT (zV k e9) own oth) (mm + 1)))))))] H := hP
              refine lv_aload_n hx hb dX6_worthOf_102 rfl (lv_at hl 2 rfl) ?_
              refine va_get (D := (dC, dI)) (ci := 3) (v := .ref bm) (C := RX6) (T := TX6) (N := 19) hx hb hts hinX6 hown hK hP 0 rfl rfl 14 (by decide) (hts (.fieldLink RX6 41 "RoyalUrTableModel" "marks" "[I") (List.mem_of_getElem? (i := 4) rfl)) (fun _ h9 => h9) rfl dX6_worthOf_103 ?_
              refine lv_iload_n hx hb dX6_worthOf_106 rfl (lv_at hl 1 rfl) ?_
              refine zi_iald hx hb hK hP 5 0 rfl rfl (j := h) rfl (by omega) (by decide) dX6_worthOf_107 ?_
              refine zz_i (y := nI (mm + 1)) pk_us ?_
              refine lv_iconst (v := 5) hx hb dX6_worthOf_108 (by decide) ?_
              refine lv_icmp_ne (tgt := 126) hx hb dX6_worthOf_109 (by decide) (fun c_109 => ?_) (fun c_109 => ?_)
              · skip
                have c_109 : ¬ (mm + 1) = 5 := fun h9 => c_109 ((nI_eq (a := mm + 1) (b := 5) (by omega) (by omega)).mpr h9)
                refine lv_iconst (v := -1) hx hb dX6_worthOf_126 (by decide) ?_
                refine lv_istore (lv' := [(4, .int (-1)), (3, .int (nI h)), (0, .ref bx), (1, .int s9), (2, .int (nI d))]) hx hb dX6_worthOf_127 hl (by decide) rfl (fun ls hl => ?_)
                refine lv_iload hx hb dX6_worthOf_129 (lv_at hl 0 rfl) ?_
                refine lv_iconst (v := -1) hx hb dX6_worthOf_131 (by decide) ?_
                refine lv_icmp_eq (tgt := 142) hx hb dX6_worthOf_132 (by decide) (fun _ => ?_) (fun c9 => absurd c9 (by decide))
                refine lv_iload hx hb dX6_worthOf_142 (lv_at hl 0 rfl) ?_
                refine lv_iconst (v := -1) hx hb dX6_worthOf_144 (by decide) ?_
                refine lv_icmp_eq (tgt := 166) hx hb dX6_worthOf_145 (by decide) (fun _ => ?_) (fun c9 => absurd c9 (by decide))
                refine lv_goto (tgt := 8) hx hb dX6_worthOf_166 (by decide) ?_
                exact ihS (mm + 1) 0 1 _ (zStt_C hsd hst hkp c_109) (by omega) _ _ hP hS _ (lv_sub hl [1, 2, 3, 4] rfl)
              · skip
                have c_109 : (mm + 1) = 5 := (nI_eq (a := mm + 1) (b := 5) (by omega) (by omega)).mp c_109
                refine lv_aload_n hx hb dX6_worthOf_112 rfl (lv_at hl 2 rfl) ?_
                refine va_get (D := (dC, dI)) (ci := 3) (v := .ref bu) (C := RX6) (T := TX6) (N := 19) hx hb hts hinX6 hown hK hP 0 rfl rfl 17 (by decide) (hts (.fieldLink RX6 50 "RoyalUrTableModel" "sums" "[J") (List.mem_of_getElem? (i := 2) rfl)) (fun _ h9 => h9) rfl dX6_worthOf_113 ?_
                refine lv_iload_n hx hb dX6_worthOf_116 rfl (lv_at hl 1 rfl) ?_
                refine zi_lald hx hb hK hP 8 1 rfl rfl (j := h) rfl (by omega) (by decide) dX6_worthOf_117 ?_
                refine zz_l (y := lN (zsm (zBT (zV k e9) own oth) (mm + 1))) pk_uLs ?_
                refine lv_ldc2 (v := 16) hx hb hown (hts (.constantLong RX6 84 (16)) (List.mem_of_getElem? (i := 7) rfl)) dX6_worthOf_118 ?_
                refine lv_ldiv hx hb dX6_worthOf_121 (by decide) ?_
                refine zz_l (y := lN (zsm (zBT (zV k e9) own oth) 5 / 16)) (by rw [show mm + 1 = 5 from c_109]; exact zdiv16 (zsm_le hfl 5 (by omega))) ?_
                refine lv_l2i (v := (lN (zsm (zBT (zV k e9) own oth) 5 / 16) : Int64).toInt32) hx hb dX6_worthOf_122 rfl ?_
                refine zz_i (y := nI (zsm (zBT (zV k e9) own oth) 5 / 16)) (lN_i _) ?_
                refine lv_goto (tgt := 127) hx hb dX6_worthOf_123 (by decide) ?_
                refine lv_istore (lv' := [(4, .int (nI (zsm (zBT (zV k e9) own oth) 5 / 16))), (3, .int (nI h)), (0, .ref bx), (1, .int s9), (2, .int (nI d))]) hx hb dX6_worthOf_127 hl (by decide) rfl (fun ls hl => ?_)
                exact hKo _ (zStt_D hst hkp) (hkp.2.2.1.trans (hst.2.2.2.2.1.trans he0.1.symm)) _ _ hP hS _ (lv_sub hl [0, 1, 2, 3, 4] rfl)
          · skip
            have c_13 : h = d := (nI_eq (a := h) (b := d) (by omega) (by omega)).mp c_13
            exact absurd c_13 (by omega)
      exact stt 1000 0 0 1 u0 (zStt_0 he0) (by omega) _ _ hP hS _ hl
  refine ent d 0 sd own oth (u0.1, upd u0.2.1 0 (nI sd), upd u0.2.2.1 0 0, upd u0.2.2.2.1 0 0, upd u0.2.2.2.2.1 0 (-1), vp_updL u0.2.2.2.2.2 0 0) (by omega) hsd hO hQ (zent_mk hrow) _ _ hP hS _ (lv_sub hl [0, 1, 2, 3] rfl) (fun u1 _ _ H locs hP hS ls hl => ?_)
  have hVl := zV_le k d own oth
  refine lv_iload hx hb dX6_worthOf_129 (lv_at hl 0 rfl) ?_
  refine lv_iconst (v := -1) hx hb dX6_worthOf_131 (by decide) ?_
  refine lv_icmp_eq (tgt := 142) hx hb dX6_worthOf_132 (by decide) (fun c_132 => ?_) (fun c_132 => ?_)
  · skip
    exact absurd c_132 (nI_nm hVl)
  · skip
    refine lv_iload_n hx hb dX6_worthOf_135 rfl (lv_at hl 1 rfl) ?_
    refine lv_if_ne (tgt := 142) hx hb dX6_worthOf_136 (by decide) (fun c_136 => ?_) (fun c_136 => ?_)
    · skip
      have c_136 : ¬ 0 = 0 := fun h9 => c_136 ((nI_eq (a := 0) (b := 0) (by omega) (by omega)).mpr h9)
      exact absurd rfl c_136
    · skip
      have c_136 : 0 = 0 := (nI_eq (a := 0) (b := 0) (by omega) (by omega)).mp c_136
      refine lv_iload hx hb dX6_worthOf_139 (lv_at hl 0 rfl) ?_
      subst hQe
      exact W.iret (v := nI (zV k d own oth)) hx hb hr (fun t ht hW => ⟨⟨_, u1, rfl, rfl, zh ht hP⟩, hS.F ht⟩) hS.2.2 dX6_worthOf_141

/-! the law: its rounds, and its start -/
theorem zD_sw {A : Nat → Prop} {x y z : Nat} {r : List Nat} (h : zD A (x :: y :: z :: r)) : zD A (x :: z :: y :: r) := by
  obtain ⟨h1, h2⟩ := h
  refine ⟨?_, fun q hq => h2 q ?_⟩
  · simp only [List.nodup_cons, List.mem_cons, not_or] at h1 ⊢
    exact ⟨⟨h1.1.2.1, h1.1.1, h1.1.2.2⟩, ⟨fun e => h1.2.1.1 e.symm, h1.2.2.1⟩, h1.2.1.2, h1.2.2.2⟩
  · simp only [List.mem_cons] at hq ⊢
    rcases hq with h | h | h | h
    · exact Or.inl h
    · exact Or.inr (Or.inr (Or.inl h))
    · exact Or.inr (Or.inl h)
    · exact Or.inr (Or.inr (Or.inr h))
theorem zD_side {A : Nat → Prop} {x a0 a1 ao aq tn : Nat} {r : List Nat} (hsd : zSd tn a0 a1 ao aq) (h : zD A (x :: a0 :: a1 :: r)) : zD A (x :: ao :: aq :: r) := by
  rcases hsd with ⟨-, rfl, rfl⟩ | ⟨-, rfl, rfl⟩
  · exact h
  · exact zD_sw h
theorem zok_j {j : Nat} (h1 : 1 ≤ j) (h4 : j ≤ 4) : zok j j := by
  rcases (show j = 1 ∨ j = 2 ∨ j = 3 ∨ j = 4 by omega) with rfl | rfl | rfl | rfl <;> exact ⟨by decide, by decide +kernel, by decide +kernel⟩
theorem zSd_sw {tn a0 a1 ao aq : Nat} (h : zSd tn a0 a1 ao aq) : zSd (1 - tn) a0 a1 aq ao := by
  rcases h with ⟨rfl, rfl, rfl⟩ | ⟨rfl, rfl, rfl⟩
  · exact Or.inr ⟨rfl, rfl, rfl⟩
  · exact Or.inl ⟨rfl, rfl, rfl⟩
section ZR
variable {p : Program} {l : Launch} {e : Env} {R : Room} {s : State} {m : MethodId} {args : Array Value} {below : List Frame} {meth : Method} {c : Code} {H : Heap} {locs : List Loc} {cells slots : Nat} {Q : State → Prop}
variable {cc : ByteArray} {pc : Nat} {ls : Array Slot} {rest st0 : List Value} {D : va_G} {cl : List vw_C} {A A0 : Nat → Prop} {a : Nat} {tys : List (ClassId × FieldType)} {ws : va_W} {H0 : Heap} {av : Array Value}
theorem zrc_i {m1 s1 : Nat} {σ : Type} {post : Int32 → σ → Prop} {w1 : σ → va_W} {al : List Nat} (hr : va_Run p l e R s m args below meth c H locs cells slots m1 s1 (F0 m pc ls st0) rest (va_Qi post (fun u t => va_P D cl (w1 u) t.heap) (zA al) av) (zA al)) (hP : va_P D cl ws H) (hDD : zD A0 (ws.map Prod.fst)) (hS : va_S A0 H0 H locs) (isC : List Nat) (hal : isC.map (fun i => (ws[i]?).map Prod.fst) = al.map some) (hw1 : ∀ u, (w1 u).map Prod.fst = al)
    (kk : ∀ (r : Int32) (u : σ) (H1 : Heap) (locs1 : List Loc), post r u → va_P D cl (zset ws isC (w1 u)) H1 → va_S A0 H0 H1 locs1 → W p l e R s m args below meth c H1 locs1 (cells + m1) (slots + s1) Q (F0 m (pc + 3) ls (.int r :: rest))) : W p l e R s m args below meth c H locs cells slots Q (F0 m pc ls st0) :=
  va_calli hr hS (fun q _ h => zA_sub hDD hal q h) (zA_sub hDD hal) (fun r u t H1 locs1 ht hvm hw hB hz1 hk1 hS1 => kk r u H1 locs1 hw (zP_set isC hP hDD hal (hw1 u) hk1 (by rw [← ht]; exact hB)) hS1)
end ZR
def zLE (p : Program) (l : Launch) (s : State) (m : MethodId) (args : Array Value) (c : Code) (dC : Nat → ClassId) (dI : Nat → Nat → Nat) (cyI : ClassId) (b L tb ax a0 a1 ae at_ aw rx ry rz rq ru : Nat) (xs : Nat → Int32) : Prop :=
  p.tables.exec = Jvm.exec ∧ c.code = cL_law ∧ c.maxLocals = 9 ∧ s.vm.findClass RL = some m.cls ∧ (∀ w ∈ wsL_law, w.before args s = true) ∧ va_X b L xs s s.heap ∧ b < s.heap.size ∧ L ≤ 260 ∧ l.stackTraces = false ∧ va_K (dC, dI) vwCl [(cyI, .int)] s ∧ zG tb (fun q : Nat => s.heap.size ≤ q) s s.heap ∧ zD (fun q : Nat => s.heap.size ≤ q) [ax, a0, a1, ae, at_, aw, rx, ry, rz, rq, ru]
def zInv (dC : Nat → ClassId) (dI : Nat → Nat → Nat) (cyI : ClassId) (ax a0 a1 ae at_ aw rx ry rz rq ru : Nat) (H : Heap) : Prop :=
  ∃ (k tn own oth mm kk ao aq : Nat) (mk wn cnt lo lq : Int32) (wf wb F G Z Qf Wf : Nat → Int32), (1 ≤ k ∧ zSd tn a0 a1 ao aq ∧ kk ≤ 60 ∧ zTb kk wf ∧ zIN k tn mk wn cnt lo lq mm own oth F Qf) ∧ va_P (dC, dI) vwCl [(ax, .inr (2, [.ref a0, .ref a1, .ref ae, .ref aw, .int (nI k), .int (nI tn), .int mk, .int wn, .int cnt])), (ao, .inr (1, [.long (lN own), .int lo])), (aq, .inr (1, [.long (lN oth), .int lq])), (ae, .inr (0, [.ref at_, .int (nI kk)])), (at_, .inl (cyI, 13500, .inl wf)), (aw, .inl (cyI, 15, .inl wb)), (rx, .inl (cyI, 32, .inl F)), (ry, .inl (cyI, 32, .inl G)), (rz, .inl (cyI, 32, .inl Z)), (rq, .inl (cyI, 7, .inl Qf)), (ru, .inl (cyI, 15, .inl Wf))] H
set_option maxHeartbeats 4000000 in
set_option maxRecDepth 100000 in
theorem law_begin {p : Program} {l : Launch} {e : Env} {s : State} {m : MethodId} {args : Array Value} {below : List Frame} {meth : Method} {c : Code} {Q : State → Prop} {dC : Nat → ClassId} {dI : Nat → Nat → Nat} {cyI : ClassId} {b L tb ax a0 a1 ae at_ aw rx ry rz rq ru : Nat} {xs : Nat → Int32} (E0 : zLE p l s m args c dC dI cyI b L tb ax a0 a1 ae at_ aw rx ry rz rq ru xs) (j : Nat) (hj : j < 160) (z : Int32) {H : Heap} {locs : List Loc} (hI : zInv dC dI cyI ax a0 a1 ae at_ aw rx ry rz rq ru H) (hS : va_S (fun q : Nat => s.heap.size ≤ q) s.heap H locs) {ls : Array Slot} (hl : lv_has ls 9 [(8, .int z), (7, .int (nI j)), (6, .ref ru), (5, .ref rq), (4, .ref rz), (3, .ref ry), (2, .ref rx), (1, .ref ax), (0, .ref b)])
    (K : ∀ (H : Heap) (locs : List Loc) (ls : Array Slot), zInv dC dI cyI ax a0 a1 ae at_ aw rx ry rz rq ru H → va_S (fun q : Nat => s.heap.size ≤ q) s.heap H locs → lv_has ls 9 [(8, .int z), (7, .int (nI j)), (6, .ref ru), (5, .ref rq), (4, .ref rz), (3, .ref ry), (2, .ref rx), (1, .ref ax), (0, .ref b)] → W p l e room_1 s m args below meth c H locs (11 + 4 * (j + 1)) (13648 + 24 * (j + 1)) Q (F0 m 135 ls [])) : W p l e room_1 s m args below meth c H locs (11 + 4 * j) (13648 + 24 * j) Q (F0 m 94 ls []) := by
  obtain ⟨hx, hb, hml, hown, hts, hX, hbl, hLL, hl0, hK, hH, hAl⟩ := id E0
  have hbA : ¬ (fun q : Nat => s.heap.size ≤ q) b := Nat.not_le.mpr hbl
  obtain ⟨k, tn, own, oth, mm, kk, ao, aq, mk, wn, cnt, lo, lq, wf, wb, F, G, Z, Qf, Wf, ⟨hk1, hsd, hkk, htb, hin⟩, hP⟩ := hI
  have hDD := zD_side hsd hAl
  have htn := zSd_le hsd
  obtain ⟨hO, hQ, hg, hr9, hmk, hmm, hwn, hmw, hhas, hq⟩ := id hin
  refine W.widen (k := 11 + 4 * (j + 1)) (n := 13648 + 24 * (j + 1)) (by omega) (by omega) ?_
  refine lv_iconst (v := 1) hx hb dL_law_94 (by decide) ?_
  refine lv_iload hx hb dL_law_95 (lv_at hl 0 rfl) ?_
  refine lv_iconst (v := 3) hx hb dL_law_97 (by decide) ?_
  refine lv_ishr hx hb dL_law_98 ?_
  refine lv_iconst (v := 4) hx hb dL_law_99 (by decide) ?_
  refine zre_i (va_runS (As := [.int (z >>> (3 &&& 31)), .int 4]) (rest := [.int 1]) ⟨hx, hb, hml, hown, hts⟩ (c_L_low l (z >>> (3 &&& 31)) 4 (by omega) (by omega)) (va_cwS 2 hts gL_law_L_low rfl rfl rfl (by decide +kernel) ⟨Nat.le_of_ble_eq_true rfl, Nat.le_of_ble_eq_true rfl⟩) zPu rfl rfl hl.1 rfl (lv_room (Nat.le_of_ble_eq_true rfl)) dL_law_100 ⟨by show 11 + 4 * (j + 1) + 0 ≤ 600130; omega, by show 13648 + 24 * (j + 1) + 0 ≤ 7301080; omega⟩) hP hS (fun r_100 H locs hw_100 hP hS => ?_)
  obtain ⟨j_100, hj_100, rfl⟩ := hw_100
  refine lv_iadd hx hb dL_law_103 ?_
  refine zz_i (y := nI (1 + j_100)) (nI_add 1 j_100) ?_
  refine lv_aload_n hx hb dL_law_104 rfl (lv_at hl 6 rfl) ?_
  refine lv_aload hx hb dL_law_105 (lv_at hl 3 rfl) ?_
  refine zrw_v (w1 := fun u : (Nat → Int32) × (Nat → Int32) => [(rx, .inl (cyI, 32, .inl u.1)), (rq, .inl (cyI, 7, .inl u.2))]) (al := [rx, rq]) (va_runS (As := [.int (nI (1 + j_100)), .ref rx, .ref rq]) (rest := []) ⟨hx, hb, hml, hown, hts⟩ (c_L_begin l dC dI cyI cyI rx rq F Qf (1 + j_100) (by omega) (z_nd hDD.1 [6, 9] (by decide) rfl)) (va_cwS 3 hts gL_law_L_begin rfl rfl rfl (by decide +kernel) ⟨Nat.le_of_ble_eq_true rfl, Nat.le_of_ble_eq_true rfl⟩) (zPc_S zB_T hP hK [6, 9] rfl (fun _ _ _ => trivial)) rfl rfl hl.1 rfl (lv_room (Nat.le_of_ble_eq_true rfl)) dL_law_107 ⟨by show 11 + 4 * (j + 1) + 0 ≤ 600130; omega, by show 13648 + 24 * (j + 1) + 0 ≤ 7301080; omega⟩) hP hDD hS [6, 9] rfl (fun _ => rfl) (fun u_107 H locs hw_107 hP hS => ?_)
  have hP : va_P (dC, dI) vwCl [(ax, .inr (2, [.ref a0, .ref a1, .ref ae, .ref aw, .int (nI k), .int (nI tn), .int mk, .int wn, .int cnt])), (ao, .inr (1, [.long (lN own), .int lo])), (aq, .inr (1, [.long (lN oth), .int lq])), (ae, .inr (0, [.ref at_, .int (nI kk)])), (at_, .inl (cyI, 13500, .inl wf)), (aw, .inl (cyI, 15, .inl wb)), (rx, .inl (cyI, 32, .inl u_107.1)), (ry, .inl (cyI, 32, .inl G)), (rz, .inl (cyI, 32, .inl Z)), (rq, .inl (cyI, 7, .inl u_107.2)), (ru, .inl (cyI, 15, .inl Wf))] H := hP
  refine lv_aload_n hx hb dL_law_110 rfl (lv_at hl 7 rfl) ?_
  refine lv_aload hx hb dL_law_111 (lv_at hl 3 rfl) ?_
  refine lv_iconst (v := 0) hx hb dL_law_113 (by decide) ?_
  refine zi_iald hx hb hK hP 9 0 rfl rfl (j := 0) rfl (by omega) (by decide) dL_law_114 ?_
  refine zz_i (y := nI (1 + j_100)) hw_107.2.1 ?_
  refine zrw_v (w1 := fun _ : Unit => [(ax, .inr (2, [.ref a0, .ref a1, .ref ae, .ref aw, .int (nI (1 + j_100)), .int 0, .int (-1), .int (-1), .int 0])), (ao, .inr (1, [.long (lN (1 + j_100)), .int 0])), (aq, .inr (1, [.long (lN (1 + j_100)), .int 0]))]) (al := [ax, ao, aq]) (va_runV (As := [.int (nI (1 + j_100))]) (rest := []) ⟨hx, hb, hml, hown, hts⟩ (c_X5_begin_ok l dC dI cyI cyI ax a0 a1 ae aw ao aq tn (nI k) (nI tn) mk wn cnt lo lq (lN own) (lN oth) hsd (1 + j_100) (by omega) (by omega) (z_nd hDD.1 [0, 1, 2] (by decide) rfl)) (cwV 1 hts gL_law_X5_begin rfl rfl rfl (by decide +kernel) ⟨Nat.le_of_ble_eq_true rfl, Nat.le_of_ble_eq_true rfl⟩) (zPc_V (ci := 2) (q0 := 0) zB_T hP hK rfl rfl [0, 1, 2] rfl (fun _ _ _ => trivial)) rfl rfl hl.1 rfl (lv_room (Nat.le_of_ble_eq_true rfl)) dL_law_115 ⟨by show 11 + 4 * (j + 1) + 0 ≤ 600130; omega, by show 13648 + 24 * (j + 1) + 0 ≤ 7301080; omega⟩) hP hDD hS [0, 1, 2] rfl (fun _ => rfl) (fun u_115 H locs hw_115 hP hS => ?_)
  have hP : va_P (dC, dI) vwCl [(ax, .inr (2, [.ref a0, .ref a1, .ref ae, .ref aw, .int (nI (1 + j_100)), .int 0, .int (-1), .int (-1), .int 0])), (ao, .inr (1, [.long (lN (1 + j_100)), .int 0])), (aq, .inr (1, [.long (lN (1 + j_100)), .int 0])), (ae, .inr (0, [.ref at_, .int (nI kk)])), (at_, .inl (cyI, 13500, .inl wf)), (aw, .inl (cyI, 15, .inl wb)), (rx, .inl (cyI, 32, .inl u_107.1)), (ry, .inl (cyI, 32, .inl G)), (rz, .inl (cyI, 32, .inl Z)), (rq, .inl (cyI, 7, .inl u_107.2)), (ru, .inl (cyI, 15, .inl Wf))] H := hP
  refine lv_goto (tgt := 135) hx hb dL_law_118 (by decide) ?_
  rcases hsd with ⟨-, rfl, rfl⟩ | ⟨-, rfl, rfl⟩
  · skip
    exact K _ _ _ ⟨(1 + j_100), 0, (1 + j_100), (1 + j_100), 0, kk, ao, aq, (-1), (-1), 0, 0, 0, wf, wb, u_107.1, G, Z, u_107.2, Wf, ⟨(by omega), (Or.inl ⟨rfl, rfl, rfl⟩), hkk, htb, ⟨zok_j (by omega) (by omega), zok_j (by omega) (by omega), zgd_0 (by omega), hw_107.1, Or.inr ⟨rfl, rfl⟩, by decide, Or.inl rfl, Or.inl rfl, fun h => absurd rfl h, hw_107.2⟩⟩, hP⟩ hS (lv_sub hl [0, 1, 2, 3, 4, 5, 6, 7, 8] rfl)
  · skip
    exact K _ _ _ ⟨(1 + j_100), 0, (1 + j_100), (1 + j_100), 0, kk, aq, ao, (-1), (-1), 0, 0, 0, wf, wb, u_107.1, G, Z, u_107.2, Wf, ⟨(by omega), (Or.inl ⟨rfl, rfl, rfl⟩), hkk, htb, ⟨zok_j (by omega) (by omega), zok_j (by omega) (by omega), zgd_0 (by omega), hw_107.1, Or.inr ⟨rfl, rfl⟩, by decide, Or.inl rfl, Or.inl rfl, fun h => absurd rfl h, hw_107.2⟩⟩, (hP.sub [0, 2, 1, 3, 4, 5, 6, 7, 8, 9, 10] rfl)⟩ hS (lv_sub hl [0, 1, 2, 3, 4, 5, 6, 7, 8] rfl)

set_option maxHeartbeats 4000000 in
set_option maxRecDepth 100000 in
theorem law_turn {p : Program} {l : Launch} {e : Env} {s : State} {m : MethodId} {args : Array Value} {below : List Frame} {meth : Method} {c : Code} {Q : State → Prop} {dC : Nat → ClassId} {dI : Nat → Nat → Nat} {cyI : ClassId} {b L tb ax a0 a1 ae at_ aw rx ry rz rq ru : Nat} {xs : Nat → Int32} (E0 : zLE p l s m args c dC dI cyI b L tb ax a0 a1 ae at_ aw rx ry rz rq ru xs) (j : Nat) (hj : j < 160) (z : Int32) {H : Heap} {locs : List Loc} (hI : zInv dC dI cyI ax a0 a1 ae at_ aw rx ry rz rq ru H) (hS : va_S (fun q : Nat => s.heap.size ≤ q) s.heap H locs) {ls : Array Slot} (hl : lv_has ls 9 [(8, .int z), (7, .int (nI j)), (6, .ref ru), (5, .ref rq), (4, .ref rz), (3, .ref ry), (2, .ref rx), (1, .ref ax), (0, .ref b)])
    (K : ∀ (H : Heap) (locs : List Loc) (ls : Array Slot), zInv dC dI cyI ax a0 a1 ae at_ aw rx ry rz rq ru H → va_S (fun q : Nat => s.heap.size ≤ q) s.heap H locs → lv_has ls 9 [(8, .int z), (7, .int (nI j)), (6, .ref ru), (5, .ref rq), (4, .ref rz), (3, .ref ry), (2, .ref rx), (1, .ref ax), (0, .ref b)] → W p l e room_1 s m args below meth c H locs (11 + 4 * (j + 1)) (13648 + 24 * (j + 1)) Q (F0 m 135 ls [])) : W p l e room_1 s m args below meth c H locs (11 + 4 * j) (13648 + 24 * j) Q (F0 m 121 ls []) := by
  obtain ⟨hx, hb, hml, hown, hts, hX, hbl, hLL, hl0, hK, hH, hAl⟩ := id E0
  have hbA : ¬ (fun q : Nat => s.heap.size ≤ q) b := Nat.not_le.mpr hbl
  obtain ⟨k, tn, own, oth, mm, kk, ao, aq, mk, wn, cnt, lo, lq, wf, wb, F, G, Z, Qf, Wf, ⟨hk1, hsd, hkk, htb, hin⟩, hP⟩ := hI
  have hDD := zD_side hsd hAl
  have htn := zSd_le hsd
  obtain ⟨hO, hQ, hg, hr9, hmk, hmm, hwn, hmw, hhas, hq⟩ := id hin
  refine lv_aload_n hx hb dL_law_121 rfl (lv_at hl 7 rfl) ?_
  refine lv_iload hx hb dL_law_122 (lv_at hl 0 rfl) ?_
  refine lv_aload_n hx hb dL_law_124 rfl (lv_at hl 6 rfl) ?_
  refine lv_aload hx hb dL_law_125 (lv_at hl 3 rfl) ?_
  refine zrc_i (w1 := fun u : Int32 × Int32 × Int32 × Int32 × Nat × Int32 × Nat × Int32 × (Nat → Int32) × (Nat → Int32) => [(ax, .inr (2, [.ref a0, .ref a1, .ref ae, .ref aw, .int (nI k), .int u.1, .int u.2.1, .int u.2.2.1, .int u.2.2.2.1])), (ao, .inr (1, [.long (lN u.2.2.2.2.1), .int u.2.2.2.2.2.1])), (aq, .inr (1, [.long (lN u.2.2.2.2.2.2.1), .int u.2.2.2.2.2.2.2.1])), (rx, .inl (cyI, 32, .inl u.2.2.2.2.2.2.2.2.1)), (rq, .inl (cyI, 7, .inl u.2.2.2.2.2.2.2.2.2))]) (al := [ax, ao, aq, rx, rq]) (va_runS (As := [.ref ax, .int z, .ref rx, .ref rq]) (rest := []) ⟨hx, hb, hml, hown, hts⟩ (c_L_turn l hl0 dC dI cyI cyI tb ax a0 a1 ae aw ao aq rx rq z mk wn cnt lo lq F Qf k tn own oth mm hsd hin (z_nd hDD.1 [0, 1, 2, 6, 9] (by decide) rfl)) (va_cwS 4 hts gL_law_L_turn rfl rfl rfl (by decide +kernel) ⟨Nat.le_of_ble_eq_true rfl, Nat.le_of_ble_eq_true rfl⟩) (zPc_S zB_G hP hK [0, 1, 2, 6, 9] rfl (zG_at hH hS (fun q hq => hDD.2 q (zA_pl [0, 1, 2, 6, 9] rfl q hq)))) rfl rfl hl.1 rfl (lv_room (Nat.le_of_ble_eq_true rfl)) dL_law_127 ⟨by show 11 + 4 * j + 4 ≤ 600130; omega, by show 13648 + 24 * j + 24 ≤ 7301080; omega⟩) hP hDD hS [0, 1, 2, 6, 9] rfl (fun _ => rfl) (fun r_127 u_127 H locs hw hP hS => ?_)
  refine W.widen (k := 11 + 4 * (j + 1)) (n := 13648 + 24 * (j + 1)) (by omega) (by omega) ?_
  obtain ⟨rfl, tn', mm', e1, hw⟩ := hw
  have hP : va_P (dC, dI) vwCl [(ax, .inr (2, [.ref a0, .ref a1, .ref ae, .ref aw, .int (nI k), .int u_127.1, .int u_127.2.1, .int u_127.2.2.1, .int u_127.2.2.2.1])), (ao, .inr (1, [.long (lN u_127.2.2.2.2.1), .int u_127.2.2.2.2.2.1])), (aq, .inr (1, [.long (lN u_127.2.2.2.2.2.2.1), .int u_127.2.2.2.2.2.2.2.1])), (ae, .inr (0, [.ref at_, .int (nI kk)])), (at_, .inl (cyI, 13500, .inl wf)), (aw, .inl (cyI, 15, .inl wb)), (rx, .inl (cyI, 32, .inl u_127.2.2.2.2.2.2.2.2.1)), (ry, .inl (cyI, 32, .inl G)), (rz, .inl (cyI, 32, .inl Z)), (rq, .inl (cyI, 7, .inl u_127.2.2.2.2.2.2.2.2.2)), (ru, .inl (cyI, 15, .inl Wf))] H := hP
  have hP8 := hP
  rw [e1] at hP8
  clear hP
  rcases hw with ⟨rfl, hin8⟩ | ⟨rfl, hin8⟩
  · skip
    refine lv_if_ne (tgt := 135) hx hb dL_law_130 (by decide) (fun _ => ?_) (fun c9 => absurd c9 (by decide))
    exact K _ _ _ ⟨k, tn', u_127.2.2.2.2.1, u_127.2.2.2.2.2.2.1, mm', kk, ao, aq, u_127.2.1, u_127.2.2.1, u_127.2.2.2.1, u_127.2.2.2.2.2.1, u_127.2.2.2.2.2.2.2.1, wf, wb, u_127.2.2.2.2.2.2.2.2.1, G, Z, u_127.2.2.2.2.2.2.2.2.2, Wf, ⟨hk1, hsd, hkk, htb, hin8⟩, hP8⟩ hS (lv_sub hl [0, 1, 2, 3, 4, 5, 6, 7, 8] rfl)
  · skip
    refine lv_if_ne (tgt := 135) hx hb dL_law_130 (by decide) (fun _ => ?_) (fun c9 => absurd c9 (by decide))
    exact K _ _ _ ⟨k, (1 - tn), u_127.2.2.2.2.2.2.1, u_127.2.2.2.2.1, mm', kk, aq, ao, u_127.2.1, u_127.2.2.1, u_127.2.2.2.1, u_127.2.2.2.2.2.2.2.1, u_127.2.2.2.2.2.1, wf, wb, u_127.2.2.2.2.2.2.2.2.1, G, Z, u_127.2.2.2.2.2.2.2.2.2, Wf, ⟨hk1, (zSd_sw hsd), hkk, htb, hin8⟩, (hP8.sub [0, 2, 1, 3, 4, 5, 6, 7, 8, 9, 10] rfl)⟩ hS (lv_sub hl [0, 1, 2, 3, 4, 5, 6, 7, 8] rfl)

set_option maxHeartbeats 4000000 in
set_option maxRecDepth 100000 in
theorem law_check {p : Program} {l : Launch} {e : Env} {s : State} {m : MethodId} {args : Array Value} {below : List Frame} {meth : Method} {c : Code} {Q : State → Prop} {dC : Nat → ClassId} {dI : Nat → Nat → Nat} {cyI : ClassId} {b L tb ax a0 a1 ae at_ aw rx ry rz rq ru : Nat} {xs : Nat → Int32} (E0 : zLE p l s m args c dC dI cyI b L tb ax a0 a1 ae at_ aw rx ry rz rq ru xs) (j : Nat) (hj : j < 160) (z : Int32) {H : Heap} {locs : List Loc} (hI : zInv dC dI cyI ax a0 a1 ae at_ aw rx ry rz rq ru H) (hS : va_S (fun q : Nat => s.heap.size ≤ q) s.heap H locs) {ls : Array Slot} (hl : lv_has ls 9 [(8, .int z), (7, .int (nI j)), (6, .ref ru), (5, .ref rq), (4, .ref rz), (3, .ref ry), (2, .ref rx), (1, .ref ax), (0, .ref b)])
    (K : ∀ (H : Heap) (locs : List Loc) (ls : Array Slot), zInv dC dI cyI ax a0 a1 ae at_ aw rx ry rz rq ru H → va_S (fun q : Nat => s.heap.size ≤ q) s.heap H locs → lv_has ls 9 [(7, .int (nI j)), (6, .ref ru), (5, .ref rq), (4, .ref rz), (3, .ref ry), (2, .ref rx), (1, .ref ax), (0, .ref b)] → W p l e room_1 s m args below meth c H locs (11 + 4 * (j + 1)) (13648 + 24 * (j + 1)) Q (F0 m 195 ls [])) : W p l e room_1 s m args below meth c H locs (11 + 4 * (j + 1)) (13648 + 24 * (j + 1)) Q (F0 m 135 ls []) := by
  obtain ⟨hx, hb, hml, hown, hts, hX, hbl, hLL, hl0, hK, hH, hAl⟩ := id E0
  have hbA : ¬ (fun q : Nat => s.heap.size ≤ q) b := Nat.not_le.mpr hbl
  obtain ⟨k, tn, own, oth, mm, kk, ao, aq, mk, wn, cnt, lo, lq, wf, wb, F, G, Z, Qf, Wf, ⟨hk1, hsd, hkk, htb, hin⟩, hP⟩ := hI
  have hDD := zD_side hsd hAl
  have htn := zSd_le hsd
  obtain ⟨hO, hQ, hg, hr9, hmk, hmm, hwn, hmw, hhas, hq⟩ := id hin
  refine lv_aload_n hx hb dL_law_135 rfl (lv_at hl 7 rfl) ?_
  refine lv_aload_n hx hb dL_law_136 rfl (lv_at hl 6 rfl) ?_
  refine lv_aload hx hb dL_law_137 (lv_at hl 3 rfl) ?_
  refine zro_i (va_runS (As := [.ref ax, .ref rx, .ref rq]) (rest := []) ⟨hx, hb, hml, hown, hts⟩ (c_L_isSo l dC dI cyI cyI ax a0 a1 ae aw ao aq rx rq mk wn cnt lo lq F Qf k tn own oth mm hsd hO hQ hr9 hmk hmm hq) (va_cwS 3 hts gL_law_L_isSo rfl rfl rfl (by decide +kernel) ⟨Nat.le_of_ble_eq_true rfl, Nat.le_of_ble_eq_true rfl⟩) (zPc_S zB_T hP hK [0, 1, 2, 6, 9] rfl (fun _ _ _ => trivial)) rfl rfl hl.1 rfl (lv_room (Nat.le_of_ble_eq_true rfl)) dL_law_139 ⟨by show 11 + 4 * (j + 1) + 0 ≤ 600130; omega, by show 13648 + 24 * (j + 1) + 0 ≤ 7301080; omega⟩) hP hS (fun H locs hP hS => ?_)
  refine lv_if_eq (tgt := 193) hx hb dL_law_142 (by decide) (fun c9 => absurd c9 (by decide)) (fun _ => ?_)
  refine lv_iload hx hb dL_law_145 (lv_at hl 1 rfl) ?_
  refine lv_bipush (v := 8) hx hb dL_law_147 (by decide) ?_
  refine lv_irem hx hb dL_law_149 (by decide) ?_
  refine zz_i (y := nI (j % 8)) (pk_rem (a := j) (d := 8) (by omega) (by decide) (by decide)) ?_
  refine lv_if_ne (tgt := 195) hx hb dL_law_150 (by decide) (fun c_150 => ?_) (fun c_150 => ?_)
  · skip
    have c_150 : ¬ (j % 8) = 0 := fun h9 => c_150 ((nI_eq (a := j % 8) (b := 0) (by omega) (by omega)).mpr h9)
    exact K _ _ _ ⟨k, tn, own, oth, mm, kk, ao, aq, mk, wn, cnt, lo, lq, wf, wb, F, G, Z, Qf, Wf, ⟨hk1, hsd, hkk, htb, hin⟩, hP⟩ hS (lv_sub hl [1, 2, 3, 4, 5, 6, 7, 8] rfl)
  · skip
    have c_150 : (j % 8) = 0 := (nI_eq (a := j % 8) (b := 0) (by omega) (by omega)).mp c_150
    refine lv_aload_n hx hb dL_law_153 rfl (lv_at hl 7 rfl) ?_
    refine lv_iconst (v := 0) hx hb dL_law_154 (by decide) ?_
    refine lv_aload_n hx hb dL_law_155 rfl (lv_at hl 6 rfl) ?_
    refine lv_aload_n hx hb dL_law_156 rfl (lv_at hl 5 rfl) ?_
    refine lv_aload hx hb dL_law_157 (lv_at hl 4 rfl) ?_
    refine lv_aload hx hb dL_law_159 (lv_at hl 3 rfl) ?_
    refine lv_aload hx hb dL_law_161 (lv_at hl 2 rfl) ?_
    refine zrw_i (w1 := fun u : Nat × (Nat → Int32) × (Nat → Int32) × (Nat → Int32) × (Nat → Int32) × (Nat → Int32) => [(ax, .inr (2, [.ref a0, .ref a1, .ref ae, .ref aw, .int (nI k), .int (nI tn), .int mk, .int wn, .int cnt])), (ao, .inr (1, [.long (lN own), .int lo])), (aq, .inr (1, [.long (lN oth), .int lq])), (ae, .inr (0, [.ref at_, .int (nI u.1)])), (at_, .inl (cyI, 13500, .inl u.2.1)), (aw, .inl (cyI, 15, .inl u.2.2.1)), (rx, .inl (cyI, 32, .inl F)), (ry, .inl (cyI, 32, .inl u.2.2.2.1)), (rz, .inl (cyI, 32, .inl u.2.2.2.2.1)), (rq, .inl (cyI, 7, .inl Qf)), (ru, .inl (cyI, 15, .inl u.2.2.2.2.2))]) (al := [ax, ao, aq, ae, at_, aw, rx, ry, rz, rq, ru]) (va_runS (As := [.ref ax, .int 0, .ref rx, .ref ry, .ref rz, .ref rq, .ref ru]) (rest := []) ⟨hx, hb, hml, hown, hts⟩ (c_L_worths l dC dI cyI cyI tb ax a0 a1 ae aw at_ ao aq rx ry rz rq ru mk wn cnt lo lq wf wb F G Z Qf Wf k kk tn own oth mm 0 hsd hO hQ hg hr9 hk1 hkk htb hmk hmm hwn hmw hhas hq (by decide) hDD.1) (va_cwS 7 hts gL_law_L_worths rfl rfl rfl (by decide +kernel) ⟨Nat.le_of_ble_eq_true rfl, Nat.le_of_ble_eq_true rfl⟩) (zPc_S zB_X hP hK [0, 1, 2, 3, 4, 5, 6, 7, 8, 9, 10] rfl (zX_at hH.1 hS (fun q hq => hDD.2 q (zA_pl [0, 1, 2, 3, 4, 5, 6, 7, 8, 9, 10] rfl q hq)))) rfl rfl hl.1 rfl (lv_room (Nat.le_of_ble_eq_true rfl)) dL_law_163 ⟨by show 11 + 4 * (j + 1) + 0 ≤ 600130; omega, by show 13648 + 24 * (j + 1) + 0 ≤ 7301080; omega⟩) hP hDD hS [0, 1, 2, 3, 4, 5, 6, 7, 8, 9, 10] rfl (fun _ => rfl) (fun r_163 u_163 H locs hw_163 hP hS => ?_)
    have hP : va_P (dC, dI) vwCl [(ax, .inr (2, [.ref a0, .ref a1, .ref ae, .ref aw, .int (nI k), .int (nI tn), .int mk, .int wn, .int cnt])), (ao, .inr (1, [.long (lN own), .int lo])), (aq, .inr (1, [.long (lN oth), .int lq])), (ae, .inr (0, [.ref at_, .int (nI u_163.1)])), (at_, .inl (cyI, 13500, .inl u_163.2.1)), (aw, .inl (cyI, 15, .inl u_163.2.2.1)), (rx, .inl (cyI, 32, .inl F)), (ry, .inl (cyI, 32, .inl u_163.2.2.2.1)), (rz, .inl (cyI, 32, .inl u_163.2.2.2.2.1)), (rq, .inl (cyI, 7, .inl Qf)), (ru, .inl (cyI, 15, .inl u_163.2.2.2.2.2))] H := hP
    obtain ⟨rfl, hT_163, hK_163⟩ := hw_163
    refine lv_if_eq (tgt := 193) hx hb dL_law_166 (by decide) (fun c9 => absurd c9 (by decide)) (fun _ => ?_)
    refine lv_iload hx hb dL_law_169 (lv_at hl 1 rfl) ?_
    refine lv_bipush (v := 16) hx hb dL_law_171 (by decide) ?_
    refine lv_irem hx hb dL_law_173 (by decide) ?_
    refine zz_i (y := nI (j % 16)) (pk_rem (a := j) (d := 16) (by omega) (by decide) (by decide)) ?_
    refine lv_if_ne (tgt := 195) hx hb dL_law_174 (by decide) (fun c_174 => ?_) (fun c_174 => ?_)
    · skip
      have c_174 : ¬ (j % 16) = 0 := fun h9 => c_174 ((nI_eq (a := j % 16) (b := 0) (by omega) (by omega)).mpr h9)
      exact K _ _ _ ⟨k, tn, own, oth, mm, u_163.1, ao, aq, mk, wn, cnt, lo, lq, u_163.2.1, u_163.2.2.1, F, u_163.2.2.2.1, u_163.2.2.2.2.1, Qf, u_163.2.2.2.2.2, ⟨hk1, hsd, hK_163, hT_163, hin⟩, hP⟩ hS (lv_sub hl [1, 2, 3, 4, 5, 6, 7, 8] rfl)
    · skip
      have c_174 : (j % 16) = 0 := (nI_eq (a := j % 16) (b := 0) (by omega) (by omega)).mp c_174
      refine lv_aload_n hx hb dL_law_177 rfl (lv_at hl 7 rfl) ?_
      refine lv_iconst (v := 1) hx hb dL_law_178 (by decide) ?_
      refine lv_aload_n hx hb dL_law_179 rfl (lv_at hl 6 rfl) ?_
      refine lv_aload_n hx hb dL_law_180 rfl (lv_at hl 5 rfl) ?_
      refine lv_aload hx hb dL_law_181 (lv_at hl 4 rfl) ?_
      refine lv_aload hx hb dL_law_183 (lv_at hl 3 rfl) ?_
      refine lv_aload hx hb dL_law_185 (lv_at hl 2 rfl) ?_
      refine zrw_i (w1 := fun u : Nat × (Nat → Int32) × (Nat → Int32) × (Nat → Int32) × (Nat → Int32) × (Nat → Int32) => [(ax, .inr (2, [.ref a0, .ref a1, .ref ae, .ref aw, .int (nI k), .int (nI tn), .int mk, .int wn, .int cnt])), (ao, .inr (1, [.long (lN own), .int lo])), (aq, .inr (1, [.long (lN oth), .int lq])), (ae, .inr (0, [.ref at_, .int (nI u.1)])), (at_, .inl (cyI, 13500, .inl u.2.1)), (aw, .inl (cyI, 15, .inl u.2.2.1)), (rx, .inl (cyI, 32, .inl F)), (ry, .inl (cyI, 32, .inl u.2.2.2.1)), (rz, .inl (cyI, 32, .inl u.2.2.2.2.1)), (rq, .inl (cyI, 7, .inl Qf)), (ru, .inl (cyI, 15, .inl u.2.2.2.2.2))]) (al := [ax, ao, aq, ae, at_, aw, rx, ry, rz, rq, ru]) (va_runS (As := [.ref ax, .int 1, .ref rx, .ref ry, .ref rz, .ref rq, .ref ru]) (rest := []) ⟨hx, hb, hml, hown, hts⟩ (c_L_worths l dC dI cyI cyI tb ax a0 a1 ae aw at_ ao aq rx ry rz rq ru mk wn cnt lo lq u_163.2.1 u_163.2.2.1 F u_163.2.2.2.1 u_163.2.2.2.2.1 Qf u_163.2.2.2.2.2 k u_163.1 tn own oth mm 1 hsd hO hQ hg hr9 hk1 hK_163 hT_163 hmk hmm hwn hmw hhas hq (by decide) hDD.1) (va_cwS 7 hts gL_law_L_worths rfl rfl rfl (by decide +kernel) ⟨Nat.le_of_ble_eq_true rfl, Nat.le_of_ble_eq_true rfl⟩) (zPc_S zB_X hP hK [0, 1, 2, 3, 4, 5, 6, 7, 8, 9, 10] rfl (zX_at hH.1 hS (fun q hq => hDD.2 q (zA_pl [0, 1, 2, 3, 4, 5, 6, 7, 8, 9, 10] rfl q hq)))) rfl rfl hl.1 rfl (lv_room (Nat.le_of_ble_eq_true rfl)) dL_law_187 ⟨by show 11 + 4 * (j + 1) + 0 ≤ 600130; omega, by show 13648 + 24 * (j + 1) + 0 ≤ 7301080; omega⟩) hP hDD hS [0, 1, 2, 3, 4, 5, 6, 7, 8, 9, 10] rfl (fun _ => rfl) (fun r_187 u_187 H locs hw_187 hP hS => ?_)
      have hP : va_P (dC, dI) vwCl [(ax, .inr (2, [.ref a0, .ref a1, .ref ae, .ref aw, .int (nI k), .int (nI tn), .int mk, .int wn, .int cnt])), (ao, .inr (1, [.long (lN own), .int lo])), (aq, .inr (1, [.long (lN oth), .int lq])), (ae, .inr (0, [.ref at_, .int (nI u_187.1)])), (at_, .inl (cyI, 13500, .inl u_187.2.1)), (aw, .inl (cyI, 15, .inl u_187.2.2.1)), (rx, .inl (cyI, 32, .inl F)), (ry, .inl (cyI, 32, .inl u_187.2.2.2.1)), (rz, .inl (cyI, 32, .inl u_187.2.2.2.2.1)), (rq, .inl (cyI, 7, .inl Qf)), (ru, .inl (cyI, 15, .inl u_187.2.2.2.2.2))] H := hP
      obtain ⟨rfl, hT_187, hK_187⟩ := hw_187
      refine lv_if_ne (tgt := 195) hx hb dL_law_190 (by decide) (fun _ => ?_) (fun c9 => absurd c9 (by decide))
      exact K _ _ _ ⟨k, tn, own, oth, mm, u_187.1, ao, aq, mk, wn, cnt, lo, lq, u_187.2.1, u_187.2.2.1, F, u_187.2.2.2.1, u_187.2.2.2.2.1, Qf, u_187.2.2.2.2.2, ⟨hk1, hsd, hK_187, hT_187, hin⟩, hP⟩ hS (lv_sub hl [1, 2, 3, 4, 5, 6, 7, 8] rfl)

set_option maxHeartbeats 4000000 in
set_option maxRecDepth 100000 in
theorem law_loop {p : Program} {l : Launch} {e : Env} {s : State} {m : MethodId} {args : Array Value} {below : List Frame} {meth : Method} {c : Code} {Q : State → Prop} {dC : Nat → ClassId} {dI : Nat → Nat → Nat} {cyI : ClassId} {b L tb ax a0 a1 ae at_ aw rx ry rz rq ru : Nat} {xs : Nat → Int32} (E0 : zLE p l s m args c dC dI cyI b L tb ax a0 a1 ae at_ aw rx ry rz rq ru xs)
    (KE : ∀ (H : Heap) (locs : List Loc) (ls : Array Slot), va_S (fun q : Nat => s.heap.size ≤ q) s.heap H locs → W p l e room_1 s m args below meth c H locs 600130 7301080 Q (F0 m 201 ls [])) :
    ∀ (n9 j : Nat), j ≤ 160 → 160 - j < n9 → ∀ (H : Heap) (locs : List Loc) (ls : Array Slot), zInv dC dI cyI ax a0 a1 ae at_ aw rx ry rz rq ru H → va_S (fun q : Nat => s.heap.size ≤ q) s.heap H locs → lv_has ls 9 [(7, .int (nI j)), (6, .ref ru), (5, .ref rq), (4, .ref rz), (3, .ref ry), (2, .ref rx), (1, .ref ax), (0, .ref b)] → W p l e room_1 s m args below meth c H locs (11 + 4 * j) (13648 + 24 * j) Q (F0 m 46 ls []) := by
  intro n9
  induction n9 with
  | zero => intro j _ h; exact absurd h (Nat.not_lt_zero _)
  | succ n9 ih =>
    intro j hjL hm9 H locs ls hI hS hl
    obtain ⟨hx, hb, hml, hown, hts, hX, hbl, hLL, hl0, hK, hH, hAl⟩ := id E0
    have hbA : ¬ (fun q : Nat => s.heap.size ≤ q) b := Nat.not_le.mpr hbl
    obtain ⟨k, tn, own, oth, mm, kk, ao, aq, mk, wn, cnt, lo, lq, wf, wb, F, G, Z, Qf, Wf, ⟨hk1, hsd, hkk, htb, hin⟩, hP⟩ := hI
    have hDD := zD_side hsd hAl
    have htn := zSd_le hsd
    obtain ⟨hO, hQ, hg, hr9, hmk, hmm, hwn, hmw, hhas, hq⟩ := id hin
    refine lv_iload hx hb dL_law_46 (lv_at hl 0 rfl) ?_
    refine lv_sipush (v := 160) hx hb dL_law_48 (by decide) ?_
    refine lv_icmp_ge (tgt := 201) hx hb dL_law_51 (by decide) (fun c_51 => ?_) (fun c_51 => ?_)
    · skip
      have c_51 : 160 ≤ j := (nI_leI (a := 160) (b := j) (by omega) (by omega)).mp c_51
      refine W.widen (k := 600130) (n := 7301080) (by omega) (by omega) ?_
      exact KE H locs ls hS
    · skip
      have c_51 : ¬ 160 ≤ j := fun h9 => c_51 ((nI_leI (a := 160) (b := j) (by omega) (by omega)).mpr h9)
      have hj : j < 160 := by omega
      have K195 : ∀ (H : Heap) (locs : List Loc) (ls : Array Slot), zInv dC dI cyI ax a0 a1 ae at_ aw rx ry rz rq ru H → va_S (fun q : Nat => s.heap.size ≤ q) s.heap H locs → lv_has ls 9 [(7, .int (nI j)), (6, .ref ru), (5, .ref rq), (4, .ref rz), (3, .ref ry), (2, .ref rx), (1, .ref ax), (0, .ref b)] → W p l e room_1 s m args below meth c H locs (11 + 4 * (j + 1)) (13648 + 24 * (j + 1)) Q (F0 m 195 ls []) := by
        intro H locs ls hI hS hl
        refine lv_iinc (v := nI (j + 1)) (lv' := [(7, .int (nI (j + 1))), (6, .ref ru), (5, .ref rq), (4, .ref rz), (3, .ref ry), (2, .ref rx), (1, .ref ax), (0, .ref b)]) hx hb dL_law_195 hl (k := 0) rfl (nI_1 j) (by decide) rfl (fun ls hl => ?_)
        refine lv_goto (tgt := 46) hx hb dL_law_198 (by decide) ?_
        exact ih (j + 1) (by omega) (by omega) H locs ls hI hS hl
      refine lv_aload_n hx hb dL_law_54 rfl (lv_at hl 7 rfl) ?_
      refine lv_iload hx hb dL_law_55 (lv_at hl 0 rfl) ?_
      refine zre_i (va_runS (As := [.ref b, .int (nI j)]) (rest := []) ⟨hx, hb, hml, hown, hts⟩ (c_L_cell l b L j xs (by omega) (by omega)) (va_cwS 2 hts gL_law_L_cell rfl rfl rfl (by decide +kernel) ⟨Nat.le_of_ble_eq_true rfl, Nat.le_of_ble_eq_true rfl⟩) (zPx zB_Sc (zSc_at hX hbl hbA hS)) rfl rfl hl.1 rfl (lv_room (Nat.le_of_ble_eq_true rfl)) dL_law_57 ⟨by show 11 + 4 * j + 0 ≤ 600130; omega, by show 13648 + 24 * j + 0 ≤ 7301080; omega⟩) hP hS (fun r_57 H locs hw_57 hP hS => ?_)
      refine lv_istore (lv' := [(8, .int r_57), (7, .int (nI j)), (6, .ref ru), (5, .ref rq), (4, .ref rz), (3, .ref ry), (2, .ref rx), (1, .ref ax), (0, .ref b)]) hx hb dL_law_60 hl (by decide) rfl (fun ls hl => ?_)
      generalize r_57 = z at hl
      have K135 : ∀ (H : Heap) (locs : List Loc) (ls : Array Slot), zInv dC dI cyI ax a0 a1 ae at_ aw rx ry rz rq ru H → va_S (fun q : Nat => s.heap.size ≤ q) s.heap H locs → lv_has ls 9 [(8, .int z), (7, .int (nI j)), (6, .ref ru), (5, .ref rq), (4, .ref rz), (3, .ref ry), (2, .ref rx), (1, .ref ax), (0, .ref b)] → W p l e room_1 s m args below meth c H locs (11 + 4 * (j + 1)) (13648 + 24 * (j + 1)) Q (F0 m 135 ls []) := fun H locs ls hI hS hl => law_check E0 j hj z hI hS hl K195
      refine lv_iload hx hb dL_law_62 (lv_at hl 0 rfl) ?_
      refine lv_bipush (v := 12) hx hb dL_law_64 (by decide) ?_
      refine lv_ishr hx hb dL_law_66 ?_
      refine lv_bipush (v := 40) hx hb dL_law_67 (by decide) ?_
      refine zre_i (va_runS (As := [.int (z >>> (12 &&& 31)), .int 40]) (rest := []) ⟨hx, hb, hml, hown, hts⟩ (c_L_low l (z >>> (12 &&& 31)) 40 (by omega) (by omega)) (va_cwS 2 hts gL_law_L_low rfl rfl rfl (by decide +kernel) ⟨Nat.le_of_ble_eq_true rfl, Nat.le_of_ble_eq_true rfl⟩) zPu rfl rfl hl.1 rfl (lv_room (Nat.le_of_ble_eq_true rfl)) dL_law_69 ⟨by show 11 + 4 * j + 0 ≤ 600130; omega, by show 13648 + 24 * j + 0 ≤ 7301080; omega⟩) hP hS (fun r_69 H locs hw_69 hP hS => ?_)
      obtain ⟨j_69, hj_69, rfl⟩ := hw_69
      refine lv_if_eq (tgt := 94) hx hb dL_law_72 (by decide) (fun c_72 => ?_) (fun c_72 => ?_)
      · skip
        have c_72 : j_69 = 0 := (nI_eq (a := j_69) (b := 0) (by omega) (by omega)).mp c_72
        exact law_begin E0 j hj z ⟨k, tn, own, oth, mm, kk, ao, aq, mk, wn, cnt, lo, lq, wf, wb, F, G, Z, Qf, Wf, ⟨hk1, hsd, hkk, htb, hin⟩, hP⟩ hS (lv_sub hl [0, 1, 2, 3, 4, 5, 6, 7, 8] rfl) K135
      · skip
        have c_72 : ¬ j_69 = 0 := fun h9 => c_72 ((nI_eq (a := j_69) (b := 0) (by omega) (by omega)).mpr h9)
        refine lv_aload hx hb dL_law_75 (lv_at hl 3 rfl) ?_
        refine lv_iconst (v := 3) hx hb dL_law_77 (by decide) ?_
        refine zi_iald hx hb hK hP 9 0 rfl rfl (j := 3) rfl (by omega) (by decide) dL_law_78 ?_
        refine zz_i (y := wn) hq.2.2.2.1 ?_
        refine lv_if_lt (tgt := 121) hx hb dL_law_79 (by decide) (fun c_79 => ?_) (fun c_79 => ?_)
        · skip
          exact law_turn E0 j hj z ⟨k, tn, own, oth, mm, kk, ao, aq, mk, wn, cnt, lo, lq, wf, wb, F, G, Z, Qf, Wf, ⟨hk1, hsd, hkk, htb, hin⟩, hP⟩ hS (lv_sub hl [0, 1, 2, 3, 4, 5, 6, 7, 8] rfl) K135
        · skip
          refine lv_iload hx hb dL_law_82 (lv_at hl 0 rfl) ?_
          refine lv_bipush (v := 12) hx hb dL_law_84 (by decide) ?_
          refine lv_ishr hx hb dL_law_86 ?_
          refine lv_iconst (v := 3) hx hb dL_law_87 (by decide) ?_
          refine zre_i (va_runS (As := [.int (z >>> (12 &&& 31)), .int 3]) (rest := []) ⟨hx, hb, hml, hown, hts⟩ (c_L_low l (z >>> (12 &&& 31)) 3 (by omega) (by omega)) (va_cwS 2 hts gL_law_L_low rfl rfl rfl (by decide +kernel) ⟨Nat.le_of_ble_eq_true rfl, Nat.le_of_ble_eq_true rfl⟩) zPu rfl rfl hl.1 rfl (lv_room (Nat.le_of_ble_eq_true rfl)) dL_law_88 ⟨by show 11 + 4 * j + 0 ≤ 600130; omega, by show 13648 + 24 * j + 0 ≤ 7301080; omega⟩) hP hS (fun r_88 H locs hw_88 hP hS => ?_)
          obtain ⟨j_88, hj_88, rfl⟩ := hw_88
          refine lv_if_ne (tgt := 121) hx hb dL_law_91 (by decide) (fun c_91 => ?_) (fun c_91 => ?_)
          · skip
            have c_91 : ¬ j_88 = 0 := fun h9 => c_91 ((nI_eq (a := j_88) (b := 0) (by omega) (by omega)).mpr h9)
            exact law_turn E0 j hj z ⟨k, tn, own, oth, mm, kk, ao, aq, mk, wn, cnt, lo, lq, wf, wb, F, G, Z, Qf, Wf, ⟨hk1, hsd, hkk, htb, hin⟩, hP⟩ hS (lv_sub hl [0, 1, 2, 3, 4, 5, 6, 7, 8] rfl) K135
          · skip
            have c_91 : j_88 = 0 := (nI_eq (a := j_88) (b := 0) (by omega) (by omega)).mp c_91
            exact law_begin E0 j hj z ⟨k, tn, own, oth, mm, kk, ao, aq, mk, wn, cnt, lo, lq, wf, wb, F, G, Z, Qf, Wf, ⟨hk1, hsd, hkk, htb, hin⟩, hP⟩ hS (lv_sub hl [0, 1, 2, 3, 4, 5, 6, 7, 8] rfl) K135

/-! the law tells and moves -/
def zOp {σ : Type} (u : Option σ) (f : σ → va_W) (w : va_W) : va_W := match u with | some x => f x | none => w
theorem zOp_fst {σ : Type} {f : σ → va_W} {w : va_W} {al : List Nat} (h1 : ∀ x, (f x).map Prod.fst = al) (h2 : w.map Prod.fst = al) (u : Option σ) : (zOp u f w).map Prod.fst = al := by cases u with | none => exact h2 | some x => exact h1 x
section ZW
variable {p : Program} {l : Launch} {e : Env} {R : Room} {s : State} {m : MethodId} {args : Array Value} {below : List Frame} {meth : Method} {c : Code} {H : Heap} {locs : List Loc} {cells slots m1 s1 : Nat} {Q : State → Prop}
variable {cc : ByteArray} {pc : Nat} {ls : Array Slot} {rest st0 : List Value} {D : va_G} {cl : List vw_C} {A A0 : Nat → Prop} {a : Nat} {tys : List (ClassId × FieldType)} {ws : va_W} {H0 : Heap} {av : Array Value}
theorem zwx_i {σ : Type} {post : Int32 → σ → Prop} {w1 : σ → va_W} {al : List Nat} {xc : String → Prop} (hr : vx_Run p l e R s m args below meth c H locs cells slots m1 s1 (F0 m pc ls st0) rest (va_Qi post (fun u t => va_P D cl (w1 u) t.heap) (zA al) av) (vx_X (fun (_ : Unit) => True) (fun (E : String) _ _ => xc E) zF) (zA al)) (hP : va_P D cl ws H) (hDD : zD A0 (ws.map Prod.fst)) (hS : va_S A0 H0 H locs) (isC : List Nat) (hal : isC.map (fun i => (ws[i]?).map Prod.fst) = al.map some) (hw1 : ∀ u, (w1 u).map Prod.fst = al)
    (kx : ∀ (E : String) (ce : Cell) (q9 : Addr) (H1 : Heap) (locs1 : List Loc), xc E → va_P D cl ws H1 → va_S A0 H0 H1 locs1 → H1[q9]? = some ce → ce.vm = .none → s.vm.findClass E = some ce.cls → vx_W p l e R s m args below meth c H1 locs1 (cells + m1) (slots + s1) Q (F0 m pc ls rest) q9)
    (kk : ∀ (r : Int32) (u : σ) (H1 : Heap) (locs1 : List Loc), post r u → va_P D cl (zset ws isC (w1 u)) H1 → va_S A0 H0 H1 locs1 → W p l e R s m args below meth c H1 locs1 (cells + m1) (slots + s1) Q (F0 m (pc + 3) ls (.int r :: rest))) : W p l e R s m args below meth c H locs cells slots Q (F0 m pc ls st0) :=
  vx_calli hr hS (fun q _ h => zA_sub hDD hal q h) (zA_sub hDD hal) (fun _ _ h => h.elim)
    (fun E ce q9 _ t H1 locs1 ht hvm _ hB hz hk hS1 hce hcv hcl => kx E ce q9 H1 locs1 hB (hP.kept (fun k q hk2 => hk q.1 (hP k q hk2).lt (fun h => h))) hS1 hce hcv hcl)
    (fun r u t H1 locs1 ht hvm hw hB hz1 hk1 hS1 => kk r u H1 locs1 hw (zP_set isC hP hDD hal (hw1 u) hk1 (by rw [← ht]; exact hB)) hS1)
theorem zlw_i {σ : Type} {post : Int32 → σ → Prop} {w1 : σ → va_W} {al : List Nat} (hr : vx_Run p l e R s m args below meth c H locs cells slots m1 s1 (F0 m pc ls st0) rest (va_Qi post (fun u t => va_P D cl (w1 u) t.heap) (zA al) av) (vx_X (fun (_ : Unit) => False) (fun (_ : String) _ _ => True) zF) (zA al)) (hP : va_P D cl ws H) (hDD : zD A0 (ws.map Prod.fst)) (hS : va_S A0 H0 H locs) (isC : List Nat) (hal : isC.map (fun i => (ws[i]?).map Prod.fst) = al.map some) (hw1 : ∀ u, (w1 u).map Prod.fst = al)
    (kk : ∀ (r : Int32) (u : σ) (H1 : Heap) (locs1 : List Loc), post r u → va_P D cl (zset ws isC (w1 u)) H1 → va_S A0 H0 H1 locs1 → W p l e R s m args below meth c H1 locs1 (cells + m1) (slots + s1) Q (F0 m (pc + 3) ls (.int r :: rest))) : W p l e R s m args below meth c H locs cells slots Q (F0 m pc ls st0) :=
  vx_calli hr hS (fun q _ h => zA_sub hDD hal q h) (zA_sub hDD hal) (fun _ _ h => h.elim)
    (fun E ce q9 _ t H1 locs1 ht hvm hpx _ _ _ _ _ _ _ => hpx.elim)
    (fun r u t H1 locs1 ht hvm hw hB hz1 hk1 hS1 => kk r u H1 locs1 hw (zP_set isC hP hDD hal (hw1 u) hk1 (by rw [← ht]; exact hB)) hS1)
end ZW
/-- what holds of a game, seen from the side to move -/
def zIN (k tn : Nat) (mk wn cnt lo lq : Int32) (mm own oth : Nat) (F Qf : Nat → Int32) : Prop :=
  zok k own ∧ zok k oth ∧ zgd own oth ∧ zRow F 0 tn own oth ∧ zmk mk mm ∧ mm ≤ 4 ∧ zwn wn ∧ (mk = -1 ∨ wn = -1) ∧ (¬ mk = -1 → zHas own oth mm 15 = true) ∧ zQ Qf k tn mk wn cnt lo lq
theorem zQ_pass {f : Nat → Int32} {k tn : Nat} {mk wn cnt lo lq : Int32} (htn : tn ≤ 1) (h : zQ f k tn mk wn cnt lo lq) : zQ (upd (upd (upd f 4 (cnt + 1)) 2 (-1)) 1 (nI (1 - tn))) k (1 - tn) (-1) wn (cnt + 1) lq lo := by
  obtain ⟨h0, h1, h2, h3, h4, h5, h6⟩ := h
  refine ⟨?_, pk_us, ?_, ?_, ?_, ?_, ?_⟩
  · rw [pk_un (by decide), pk_un (by decide), pk_un (by decide)]; exact h0
  · rw [pk_un (by decide), pk_us]
  · rw [pk_un (by decide), pk_un (by decide), pk_un (by decide)]; exact h3
  · rw [pk_un (by decide), pk_un (by decide), pk_us]
  · rw [pk_un (by omega), pk_un (by omega), pk_un (by omega), show 5 + (1 - tn) = 6 - tn by omega]; exact h6
  · rw [pk_un (by omega), pk_un (by omega), pk_un (by omega), show 6 - (1 - tn) = 5 + tn by omega]; exact h5
theorem zQ_told {f : Nat → Int32} {k tn : Nat} {mk wn cnt lo lq x : Int32} (htn : tn ≤ 1) (h : zQ f k tn mk wn cnt lo lq) : zQ (upd (upd (upd f 4 (cnt + 1)) 2 x) 1 (nI tn)) k tn x wn (cnt + 1) lo lq := by
  obtain ⟨h0, h1, h2, h3, h4, h5, h6⟩ := h
  refine ⟨?_, pk_us, ?_, ?_, ?_, ?_, ?_⟩
  · rw [pk_un (by decide), pk_un (by decide), pk_un (by decide)]; exact h0
  · rw [pk_un (by decide), pk_us]
  · rw [pk_un (by decide), pk_un (by decide), pk_un (by decide)]; exact h3
  · rw [pk_un (by decide), pk_un (by decide), pk_us]
  · rw [pk_un (by omega), pk_un (by omega), pk_un (by omega)]; exact h5
  · rw [pk_un (by omega), pk_un (by omega), pk_un (by omega)]; exact h6
theorem zQ_won {f : Nat → Int32} {k tn : Nat} {mk wn cnt lo lq : Int32} (htn : tn ≤ 1) (hm : mk = -1) (h : zQ f k tn mk wn cnt lo lq) : zQ (upd (upd (upd f 4 (cnt + 0)) 2 (-1)) 1 (nI tn)) k tn mk wn cnt lo lq := by
  obtain ⟨h0, h1, h2, h3, h4, h5, h6⟩ := h
  refine ⟨?_, pk_us, ?_, ?_, ?_, ?_, ?_⟩
  · rw [pk_un (by decide), pk_un (by decide), pk_un (by decide)]; exact h0
  · rw [pk_un (by decide), pk_us]; exact hm.symm
  · rw [pk_un (by decide), pk_un (by decide), pk_un (by decide)]; exact h3
  · rw [pk_un (by decide), pk_un (by decide), pk_us]; exact Int32.add_zero cnt
  · rw [pk_un (by omega), pk_un (by omega), pk_un (by omega)]; exact h5
  · rw [pk_un (by omega), pk_un (by omega), pk_un (by omega)]; exact h6
theorem zQ_mvs {f : Nat → Int32} {k tn : Nat} {mk wn cnt lo lq x y z L W : Int32} (htn : tn ≤ 1) (h : zQ f k tn mk wn cnt lo lq) (hx : x = L) (hy : y = W) (hz : z = nI tn) : zQ (upd (upd (upd (upd f (6 - tn) x) 3 y) 1 z) 2 (-1)) k tn (-1) W cnt lo L := by
  obtain ⟨h0, h1, h2, h3, h4, h5, h6⟩ := h
  subst hx hy hz
  refine ⟨?_, ?_, pk_us, ?_, ?_, ?_, ?_⟩
  · rw [pk_un (by decide), pk_un (by decide), pk_un (by decide), pk_un (by omega)]; exact h0
  · rw [pk_un (by decide), pk_us]
  · rw [pk_un (by decide), pk_un (by decide), pk_us]
  · rw [pk_un (by decide), pk_un (by decide), pk_un (by decide), pk_un (by omega)]; exact h4
  · rw [pk_un (by omega), pk_un (by omega), pk_un (by omega), pk_un (by omega)]; exact h5
  · rw [pk_un (by omega), pk_un (by omega), pk_un (by omega), pk_us]
theorem zQ_mvo {f : Nat → Int32} {k tn : Nat} {mk wn cnt lo lq x y z L W : Int32} (htn : tn ≤ 1) (h : zQ f k tn mk wn cnt lo lq) (hx : x = L) (hy : y = W) (hz : z = nI (1 - tn)) : zQ (upd (upd (upd (upd f (6 - tn) x) 3 y) 1 z) 2 (-1)) k (1 - tn) (-1) W cnt L lo := by
  obtain ⟨h0, h1, h2, h3, h4, h5, h6⟩ := h
  subst hx hy hz
  refine ⟨?_, ?_, pk_us, ?_, ?_, ?_, ?_⟩
  · rw [pk_un (by decide), pk_un (by decide), pk_un (by decide), pk_un (by omega)]; exact h0
  · rw [pk_un (by decide), pk_us]
  · rw [pk_un (by decide), pk_un (by decide), pk_us]
  · rw [pk_un (by decide), pk_un (by decide), pk_un (by decide), pk_un (by omega)]; exact h4
  · rw [pk_un (by omega), pk_un (by omega), pk_un (by omega), show 5 + (1 - tn) = 6 - tn by omega, pk_us]
  · rw [pk_un (by omega), pk_un (by omega), pk_un (by omega), pk_un (by omega), show 6 - (1 - tn) = 5 + tn by omega]; exact h5
/-- behind a move -/
theorem zmoved {f F : Nat → Int32} {k tn own oth fr m : Nat} {mk wn cnt lo lq x y : Int32} (htn : tn ≤ 1) (hO : zok k own) (hQ : zok k oth) (hg : zgd own oth) (hc : zcm own oth fr m = true) (hw : wn = -1) (hr : zRow F 0 tn (zsh own fr (fr + m)) (if ztk oth (fr + m) = true then zsh oth (fr + m) 0 else oth))
    (h : zQ f k tn mk wn cnt lo lq) (hx : x = (if ztk oth (fr + m) = true then lq + 1 else lq)) (hy : y = (if zhome (zsh own fr (fr + m)) = true then nI tn else wn)) :
    ∃ tn' mm' : Nat, (if zros (fr + m) = true then nI tn else nI (1 - tn)) = nI tn' ∧
      ((tn' = tn ∧ zIN k tn' (-1) (if zhome (zsh own fr (fr + m)) = true then nI tn else wn) cnt lo (if ztk oth (fr + m) = true then lq + 1 else lq) mm' (zsh own fr (fr + m)) (if ztk oth (fr + m) = true then zsh oth (fr + m) 0 else oth) F (upd (upd (upd (upd f (6 - tn) x) 3 y) 1 (nI (if zros (fr + m) = true then tn else 1 - tn))) 2 (-1)))
      ∨ (tn' = 1 - tn ∧ zIN k tn' (-1) (if zhome (zsh own fr (fr + m)) = true then nI tn else wn) cnt (if ztk oth (fr + m) = true then lq + 1 else lq) lo mm' (if ztk oth (fr + m) = true then zsh oth (fr + m) 0 else oth) (zsh own fr (fr + m)) F (upd (upd (upd (upd f (6 - tn) x) 3 y) 1 (nI (if zros (fr + m) = true then tn else 1 - tn))) 2 (-1)))) := by
  obtain ⟨hm0, hd0, hto⟩ := zcm_spec hc
  have hO2 := zok_sh hO hd0 (by omega) hto (by omega)
  have hQ2 := zok_tk hQ hto
  have hg2 := zgd_mv hO hQ hg hc
  have hwn : zwn (if zhome (zsh own fr (fr + m)) = true then nI tn else wn) := by
    split
    · exact Or.inr ⟨tn, htn, rfl⟩
    · exact Or.inl hw
  by_cases hz : zros (fr + m) = true
  · exact ⟨tn, 0, if_pos hz, Or.inl ⟨rfl, hO2, hQ2, hg2, hr, Or.inr ⟨rfl, rfl⟩, by decide, hwn, Or.inl rfl, fun h => absurd rfl h, zQ_mvs htn h hx hy (by rw [if_pos hz])⟩⟩
  · exact ⟨1 - tn, 0, if_neg hz, Or.inr ⟨rfl, hQ2, hO2, hg2.sw, hr.sw htn, Or.inr ⟨rfl, rfl⟩, by decide, hwn, Or.inl rfl, fun h => absurd rfl h, zQ_mvo htn h hx hy (by rw [if_neg hz])⟩⟩
set_option maxHeartbeats 4000000 in
set_option maxRecDepth 100000 in
theorem c_L_tells (l : Launch) (hl0 : l.stackTraces = false) (dC : Nat → ClassId) (dI : Nat → Nat → Nat) (cyI cyJ : ClassId) (tb ax a0 a1 ae aw ao aq : Nat) (mk wn cnt lo lq : Int32) (k tn own oth mm : Nat) (hsd : zSd tn a0 a1 ao aq) (hO : zok k own) (hQ : zok k oth) (hmk : zmk mk mm) (hmm : mm ≤ 4) (mj0 : Nat) (hmj0 : mj0 ≤ 4) (hnd : [ax, ao, aq].Nodup) : vx_Met l yL_tells wsL_tells ({ frames := 8, cells := 2, slots := 12, locals := 134 }) (zPc [.ref ax, .int (nI mj0)] (dC, dI) vwCl [(cyI, .int)] [(ax, .inr (2, [.ref a0, .ref a1, .ref ae, .ref aw, .int (nI k), .int (nI tn), .int mk, .int wn, .int cnt])), (ao, .inr (1, [.long (lN own), .int lo])), (aq, .inr (1, [.long (lN oth), .int lq]))] (fun U => zG tb (zA [ax, ao, aq]) U U.heap)) (va_Qi (fun (r : Int32) (u : Option (Int32 × Int32)) => (∃ x : Int32 × Int32, u = some x ∧ ∃ mj, mj ≤ 4 ∧ nI mj0 = nI mj ∧ wn = -1 ∧ mk = -1 ∧ r = nI (zNum own oth mj 15) ∧ x.1 = (if zNum own oth mj 15 = 0 then nI (1 - tn) else nI tn) ∧ x.2 = (if zNum own oth mj 15 = 0 then -1 else nI mj)) ∨ (u = none ∧ r = -3 ∧ ¬ (wn = -1 ∧ mk = -1))) (fun (u : Option (Int32 × Int32)) t => va_P (dC, dI) vwCl (zOp u (fun u : Int32 × Int32 => [(ax, .inr (2, [.ref a0, .ref a1, .ref ae, .ref aw, .int (nI k), .int u.1, .int u.2, .int wn, .int (cnt + 1)])), (ao, .inr (1, [.long (lN own), .int lo])), (aq, .inr (1, [.long (lN oth), .int lq]))]) [(ax, .inr (2, [.ref a0, .ref a1, .ref ae, .ref aw, .int (nI k), .int (nI tn), .int mk, .int wn, .int cnt])), (ao, .inr (1, [.long (lN own), .int lo])), (aq, .inr (1, [.long (lN oth), .int lq]))]) t.heap) (zA [ax, ao, aq])) (vx_X (fun (_ : Unit) => False) (fun (_ : String) _ _ => True) zF) 2 12 (zA [ax, ao, aq]) := by
  refine vx_ofWH (cc := cL_tells) (maxL := 3) (ret := (some .int)) (hh := [(0, 5, 6, 16)]) (by decide) rfl ?_
  intro p e s m args below meth c s₁ B hml hv
  obtain ⟨rfl, hP, hK, hX⟩ := hv
  have hx := B.exec
  have hb := B.bytes
  have hr := B.returns
  have hts := atoms_spec (ws := wsL_tells) B.pre
  have hown : s.vm.findClass RL = some m.cls := findClass_of_methodNamed B.named
  have hlocks := B.notSynchronized
  have hex : c.exceptionTable.toList = [⟨0, 5, 6, 16⟩] := (vx_table (x := yL_tells) B (hts _ List.mem_cons_self)).trans rfl
  have hl := lv_entry ([.ref ax, .int (nI mj0)]) (n := 3) (Nat.le_of_ble_eq_true rfl)
  rw [lg_entry_eq]
  generalize (lg_sl ([.ref ax, .int (nI mj0)]) ++ List.replicate (3 - (lg_sl ([.ref ax, .int (nI mj0)])).length) Slot.unset).toArray = ls at hl ⊢
  have hl : lv_has ls 3 [(0, .ref ax), (1, .int (nI mj0))] := hl
  have hS : va_S (zA [ax, ao, aq]) s.heap s.heap [] := va_S.rf
  have hDD : zD (zA [ax, ao, aq]) [ax, ao, aq] := ⟨hnd, fun _ h => h⟩
  refine lv_aload_n hx hb dL_tells_0 rfl (lv_at hl 0 rfl) ?_
  refine lv_iload_n hx hb dL_tells_1 rfl (lv_at hl 1 rfl) ?_
  refine zwx_i (w1 := fun u : Int32 × Int32 => [(ax, .inr (2, [.ref a0, .ref a1, .ref ae, .ref aw, .int (nI k), .int u.1, .int u.2, .int wn, .int (cnt + 1)])), (ao, .inr (1, [.long (lN own), .int lo])), (aq, .inr (1, [.long (lN oth), .int lq]))]) (al := [ax, ao, aq]) (vx_runV (As := [.int (nI mj0)]) (rest := []) ⟨hx, hb, hml, hown, hts⟩ (c_X5_tell l hl0 dC dI cyI cyJ tb ax a0 a1 ae aw ao aq mk wn cnt lo lq k tn own oth mm hsd hO hQ hmk hmm (nI mj0) hnd) (cwV 1 hts gL_tells_X5_tell rfl rfl rfl (by decide +kernel) ⟨Nat.le_of_ble_eq_true rfl, Nat.le_of_ble_eq_true rfl⟩) (zPc_V (ci := 2) (q0 := 0) zB_G hP hK rfl rfl [0, 1, 2] rfl (zG_at hX hS (fun _ h => h))) rfl rfl hl.1 rfl (lv_room (Nat.le_of_ble_eq_true rfl)) dL_tells_2 ⟨Nat.le_of_ble_eq_true rfl, Nat.le_of_ble_eq_true rfl⟩) hP hDD hS [0, 1, 2] rfl (fun _ => rfl) (fun E ce q9 H locs hE hP hS hce hcv hcl => ?_) (fun r9 u H locs hw hP hS => ?_)
  · skip
    have hP : va_P (dC, dI) vwCl [(ax, .inr (2, [.ref a0, .ref a1, .ref ae, .ref aw, .int (nI k), .int (nI tn), .int mk, .int wn, .int cnt])), (ao, .inr (1, [.long (lN own), .int lo])), (aq, .inr (1, [.long (lN oth), .int lq]))] H := hP
    rcases hE with ⟨rfl, hE⟩ | ⟨rfl, hE⟩
    · exact absurd ((zin_iff (n := 4) (by decide)).mpr ⟨mj0, hmj0, rfl⟩) hE
    · skip
      refine vx_catch (name := zIS) hown [] ⟨0, 5, 6, 16⟩ [] hex (fun z hz => by cases hz) (by decide) (by decide) (hts (.classLink RL 16 "java/lang/IllegalStateException") (List.mem_of_getElem? (i := 1) rfl)) (va_Nw.use rfl hX.2.2.2.2.2.2.2) hce hcv hcl ?_
      refine lv_astore_n (lv' := [(2, .ref q9), (0, .ref ax), (1, .int (nI mj0))]) hx hb dL_tells_6 rfl hl (by decide) rfl (fun ls hl => ?_)
      refine lv_bipush (v := -3) hx hb dL_tells_7 (by decide) ?_
      refine vx_ret (mc := 2) (ms := 12) ?_
      refine W.widen (k := 2) (n := 12) (Nat.le_of_ble_eq_true rfl) (Nat.le_of_ble_eq_true rfl) ?_
      exact W.iret (v := -3) hx hb hr (fun t ht hW => ⟨⟨_, none, rfl, Or.inr ⟨rfl, rfl, hE.2⟩, zh ht hP⟩, hS.F ht⟩) hS.2.2 dL_tells_9
  · skip
    have hP : va_P (dC, dI) vwCl [(ax, .inr (2, [.ref a0, .ref a1, .ref ae, .ref aw, .int (nI k), .int u.1, .int u.2, .int wn, .int (cnt + 1)])), (ao, .inr (1, [.long (lN own), .int lo])), (aq, .inr (1, [.long (lN oth), .int lq]))] H := hP
    refine vx_ret (mc := 2) (ms := 12) ?_
    refine W.widen (k := 2) (n := 12) (Nat.le_of_ble_eq_true rfl) (Nat.le_of_ble_eq_true rfl) ?_
    exact W.iret (v := r9) hx hb hr (fun t ht hW => ⟨⟨_, some u, rfl, Or.inl ⟨u, rfl, hw⟩, zh ht hP⟩, hS.F ht⟩) hS.2.2 dL_tells_5

set_option maxHeartbeats 4000000 in
set_option maxRecDepth 100000 in
theorem c_L_moves (l : Launch) (hl0 : l.stackTraces = false) (dC : Nat → ClassId) (dI : Nat → Nat → Nat) (cyI cyJ : ClassId) (tb ax a0 a1 ae aw ao aq : Nat) (mk wn cnt lo lq : Int32) (k tn own oth mm : Nat) (hsd : zSd tn a0 a1 ao aq) (hO : zok k own) (hQ : zok k oth) (hmk : zmk mk mm) (hmm : mm ≤ 4) (fr0 : Nat) (hfr0 : fr0 ≤ 14) (hnd : [ax, ao, aq].Nodup) : vx_Met l yL_moves wsL_moves ({ frames := 8, cells := 2, slots := 12, locals := 136 }) (zPc [.ref ax, .int (nI fr0)] (dC, dI) vwCl [(cyI, .int)] [(ax, .inr (2, [.ref a0, .ref a1, .ref ae, .ref aw, .int (nI k), .int (nI tn), .int mk, .int wn, .int cnt])), (ao, .inr (1, [.long (lN own), .int lo])), (aq, .inr (1, [.long (lN oth), .int lq]))] (fun U => zG tb (zA [ax, ao, aq]) U U.heap)) (va_Qi (fun (r : Int32) (u : Option (Nat × Int32 × Int32 × Nat × Int32)) => (∃ x : Nat × Int32 × Int32 × Nat × Int32, u = some x ∧ x.1 ≤ 14 ∧ nI fr0 = nI x.1 ∧ zcm own oth x.1 mm = true ∧ r = nI (x.1 + mm) ∧ x.2.1 = (if zros (x.1 + mm) = true then nI tn else nI (1 - tn)) ∧ x.2.2.1 = (if zhome (zsh own x.1 (x.1 + mm)) = true then nI tn else wn) ∧ x.2.2.2.1 = (if ztk oth (x.1 + mm) = true then zsh oth (x.1 + mm) 0 else oth) ∧ x.2.2.2.2 = (if ztk oth (x.1 + mm) = true then lq + 1 else lq)) ∨ (u = none ∧ r = -3 ∧ zcm own oth fr0 mm = false)) (fun (u : Option (Nat × Int32 × Int32 × Nat × Int32)) t => va_P (dC, dI) vwCl (zOp u (fun u : Nat × Int32 × Int32 × Nat × Int32 => [(ax, .inr (2, [.ref a0, .ref a1, .ref ae, .ref aw, .int (nI k), .int u.2.1, .int (-1), .int u.2.2.1, .int cnt])), (ao, .inr (1, [.long (lN (zsh own u.1 (u.1 + mm))), .int lo])), (aq, .inr (1, [.long (lN u.2.2.2.1), .int u.2.2.2.2]))]) [(ax, .inr (2, [.ref a0, .ref a1, .ref ae, .ref aw, .int (nI k), .int (nI tn), .int mk, .int wn, .int cnt])), (ao, .inr (1, [.long (lN own), .int lo])), (aq, .inr (1, [.long (lN oth), .int lq]))]) t.heap) (zA [ax, ao, aq])) (vx_X (fun (_ : Unit) => False) (fun (_ : String) _ _ => True) zF) 2 12 (zA [ax, ao, aq]) := by
  refine vx_ofWH (cc := cL_moves) (maxL := 3) (ret := (some .int)) (hh := [(0, 5, 6, 16)]) (by decide) rfl ?_
  intro p e s m args below meth c s₁ B hml hv
  obtain ⟨rfl, hP, hK, hX⟩ := hv
  have hx := B.exec
  have hb := B.bytes
  have hr := B.returns
  have hts := atoms_spec (ws := wsL_moves) B.pre
  have hown : s.vm.findClass RL = some m.cls := findClass_of_methodNamed B.named
  have hlocks := B.notSynchronized
  have hex : c.exceptionTable.toList = [⟨0, 5, 6, 16⟩] := (vx_table (x := yL_moves) B (hts _ List.mem_cons_self)).trans rfl
  have hl := lv_entry ([.ref ax, .int (nI fr0)]) (n := 3) (Nat.le_of_ble_eq_true rfl)
  rw [lg_entry_eq]
  generalize (lg_sl ([.ref ax, .int (nI fr0)]) ++ List.replicate (3 - (lg_sl ([.ref ax, .int (nI fr0)])).length) Slot.unset).toArray = ls at hl ⊢
  have hl : lv_has ls 3 [(0, .ref ax), (1, .int (nI fr0))] := hl
  have hS : va_S (zA [ax, ao, aq]) s.heap s.heap [] := va_S.rf
  have hDD : zD (zA [ax, ao, aq]) [ax, ao, aq] := ⟨hnd, fun _ h => h⟩
  refine lv_aload_n hx hb dL_moves_0 rfl (lv_at hl 0 rfl) ?_
  refine lv_iload_n hx hb dL_moves_1 rfl (lv_at hl 1 rfl) ?_
  refine zwx_i (w1 := fun u : Nat × Int32 × Int32 × Nat × Int32 => [(ax, .inr (2, [.ref a0, .ref a1, .ref ae, .ref aw, .int (nI k), .int u.2.1, .int (-1), .int u.2.2.1, .int cnt])), (ao, .inr (1, [.long (lN (zsh own u.1 (u.1 + mm))), .int lo])), (aq, .inr (1, [.long (lN u.2.2.2.1), .int u.2.2.2.2]))]) (al := [ax, ao, aq]) (vx_runV (As := [.int (nI fr0)]) (rest := []) ⟨hx, hb, hml, hown, hts⟩ (c_X5_move l hl0 dC dI cyI cyJ tb ax a0 a1 ae aw ao aq mk wn cnt lo lq k tn own oth mm hsd hO hQ hmk hmm (nI fr0) hnd) (cwV 1 hts gL_moves_X5_move rfl rfl rfl (by decide +kernel) ⟨Nat.le_of_ble_eq_true rfl, Nat.le_of_ble_eq_true rfl⟩) (zPc_V (ci := 2) (q0 := 0) zB_G hP hK rfl rfl [0, 1, 2] rfl (zG_at hX hS (fun _ h => h))) rfl rfl hl.1 rfl (lv_room (Nat.le_of_ble_eq_true rfl)) dL_moves_2 ⟨Nat.le_of_ble_eq_true rfl, Nat.le_of_ble_eq_true rfl⟩) hP hDD hS [0, 1, 2] rfl (fun _ => rfl) (fun E ce q9 H locs hE hP hS hce hcv hcl => ?_) (fun r9 u H locs hw hP hS => ?_)
  · skip
    have hP : va_P (dC, dI) vwCl [(ax, .inr (2, [.ref a0, .ref a1, .ref ae, .ref aw, .int (nI k), .int (nI tn), .int mk, .int wn, .int cnt])), (ao, .inr (1, [.long (lN own), .int lo])), (aq, .inr (1, [.long (lN oth), .int lq]))] H := hP
    rcases hE with ⟨rfl, hE⟩ | ⟨rfl, hE⟩
    · exact absurd ((zin_iff (n := 14) (by decide)).mpr ⟨fr0, hfr0, rfl⟩) hE
    · skip
      refine vx_catch (name := zIS) hown [] ⟨0, 5, 6, 16⟩ [] hex (fun z hz => by cases hz) (by decide) (by decide) (hts (.classLink RL 16 "java/lang/IllegalStateException") (List.mem_of_getElem? (i := 1) rfl)) (va_Nw.use rfl hX.2.2.2.2.2.2.2) hce hcv hcl ?_
      refine lv_astore_n (lv' := [(2, .ref q9), (0, .ref ax), (1, .int (nI fr0))]) hx hb dL_moves_6 rfl hl (by decide) rfl (fun ls hl => ?_)
      refine lv_bipush (v := -3) hx hb dL_moves_7 (by decide) ?_
      refine vx_ret (mc := 2) (ms := 12) ?_
      refine W.widen (k := 2) (n := 12) (Nat.le_of_ble_eq_true rfl) (Nat.le_of_ble_eq_true rfl) ?_
      exact W.iret (v := -3) hx hb hr (fun t ht hW => ⟨⟨_, none, rfl, Or.inr ⟨rfl, rfl, (by obtain ⟨f9, h1, h2, h3⟩ := hE; rw [(nI_eq (by omega) (by omega)).mp h2]; exact h3)⟩, zh ht hP⟩, hS.F ht⟩) hS.2.2 dL_moves_9
  · skip
    have hP : va_P (dC, dI) vwCl [(ax, .inr (2, [.ref a0, .ref a1, .ref ae, .ref aw, .int (nI k), .int u.2.1, .int (-1), .int u.2.2.1, .int cnt])), (ao, .inr (1, [.long (lN (zsh own u.1 (u.1 + mm))), .int lo])), (aq, .inr (1, [.long (lN u.2.2.2.1), .int u.2.2.2.2]))] H := hP
    refine vx_ret (mc := 2) (ms := 12) ?_
    refine W.widen (k := 2) (n := 12) (Nat.le_of_ble_eq_true rfl) (Nat.le_of_ble_eq_true rfl) ?_
    exact W.iret (v := r9) hx hb hr (fun t ht hW => ⟨⟨_, some u, rfl, Or.inl ⟨u, rfl, hw⟩, zh ht hP⟩, hS.F ht⟩) hS.2.2 dL_moves_5

set_option maxHeartbeats 4000000 in
set_option maxRecDepth 100000 in
theorem c_L_turn (l : Launch) (hl0 : l.stackTraces = false) (dC : Nat → ClassId) (dI : Nat → Nat → Nat) (cyI cyJ : ClassId) (tb ax a0 a1 ae aw ao aq rx rq : Nat) (z mk wn cnt lo lq : Int32) (F Qf : Nat → Int32) (k tn own oth mm : Nat) (hsd : zSd tn a0 a1 ao aq) (hin : zIN k tn mk wn cnt lo lq mm own oth F Qf) (hnd : [ax, ao, aq, rx, rq].Nodup) : Met l yL_turn wsL_turn ({ frames := 10, cells := 4, slots := 24, locals := 170 }) (zPc [.ref ax, .int z, .ref rx, .ref rq] (dC, dI) vwCl [(cyI, .int)] [(ax, .inr (2, [.ref a0, .ref a1, .ref ae, .ref aw, .int (nI k), .int (nI tn), .int mk, .int wn, .int cnt])), (ao, .inr (1, [.long (lN own), .int lo])), (aq, .inr (1, [.long (lN oth), .int lq])), (rx, .inl (cyI, 32, .inl F)), (rq, .inl (cyI, 7, .inl Qf))] (fun U => zG tb (zA [ax, ao, aq, rx, rq]) U U.heap)) (va_Qi (fun (r : Int32) (u : Int32 × Int32 × Int32 × Int32 × Nat × Int32 × Nat × Int32 × (Nat → Int32) × (Nat → Int32)) => r = 1 ∧ ∃ tn' mm' : Nat, u.1 = nI tn' ∧ ((tn' = tn ∧ zIN k tn' u.2.1 u.2.2.1 u.2.2.2.1 u.2.2.2.2.2.1 u.2.2.2.2.2.2.2.1 mm' u.2.2.2.2.1 u.2.2.2.2.2.2.1 u.2.2.2.2.2.2.2.2.1 u.2.2.2.2.2.2.2.2.2) ∨ (tn' = 1 - tn ∧ zIN k tn' u.2.1 u.2.2.1 u.2.2.2.1 u.2.2.2.2.2.2.2.1 u.2.2.2.2.2.1 mm' u.2.2.2.2.2.2.1 u.2.2.2.2.1 u.2.2.2.2.2.2.2.2.1 u.2.2.2.2.2.2.2.2.2))) (fun (u : Int32 × Int32 × Int32 × Int32 × Nat × Int32 × Nat × Int32 × (Nat → Int32) × (Nat → Int32)) t => va_P (dC, dI) vwCl ([(ax, .inr (2, [.ref a0, .ref a1, .ref ae, .ref aw, .int (nI k), .int u.1, .int u.2.1, .int u.2.2.1, .int u.2.2.2.1])), (ao, .inr (1, [.long (lN u.2.2.2.2.1), .int u.2.2.2.2.2.1])), (aq, .inr (1, [.long (lN u.2.2.2.2.2.2.1), .int u.2.2.2.2.2.2.2.1])), (rx, .inl (cyI, 32, .inl u.2.2.2.2.2.2.2.2.1)), (rq, .inl (cyI, 7, .inl u.2.2.2.2.2.2.2.2.2))]) t.heap) (zA [ax, ao, aq, rx, rq])) 4 24 (zA [ax, ao, aq, rx, rq]) := by
  refine Met.ofW (cc := cL_turn) (maxL := 9) (ret := (some .boolean)) (by decide) rfl ?_
  intro p e s m args below meth c s₁ B hml hv
  obtain ⟨rfl, hP, hK, hX⟩ := hv
  have hx := B.exec
  have hb := B.bytes
  have hr := B.returns
  have hts := atoms_spec (ws := wsL_turn) B.pre
  have hown : s.vm.findClass RL = some m.cls := findClass_of_methodNamed B.named
  have hlocks := B.notSynchronized
  have hl := lv_entry ([.ref ax, .int z, .ref rx, .ref rq]) (n := 9) (Nat.le_of_ble_eq_true rfl)
  rw [lg_entry_eq]
  generalize (lg_sl ([.ref ax, .int z, .ref rx, .ref rq]) ++ List.replicate (9 - (lg_sl ([.ref ax, .int z, .ref rx, .ref rq])).length) Slot.unset).toArray = ls at hl ⊢
  have hl : lv_has ls 9 [(0, .ref ax), (1, .int z), (2, .ref rx), (3, .ref rq)] := hl
  have hS : va_S (zA [ax, ao, aq, rx, rq]) s.heap s.heap [] := va_S.rf
  have hDD : zD (zA [ax, ao, aq, rx, rq]) [ax, ao, aq, rx, rq] := ⟨hnd, fun _ h => h⟩
  generalize hQe : MQ below _ _ _ _ _ _ = Q
  obtain ⟨hO, hQ, hg, hr9, hmk, hmm, hwn, hmw, hhas, hq⟩ := hin
  have htn := zSd_le hsd
  have hk5 := hO.1
  refine lv_iload_n hx hb dL_turn_0 rfl (lv_at hl 1 rfl) ?_
  refine lv_bipush (v := 16) hx hb dL_turn_1 (by decide) ?_
  refine zre_i (va_runS (As := [.int z, .int 16]) (rest := []) ⟨hx, hb, hml, hown, hts⟩ (c_L_low l z 16 (by omega) (by omega)) (va_cwS 2 hts gL_turn_L_low rfl rfl rfl (by decide +kernel) ⟨Nat.le_of_ble_eq_true rfl, Nat.le_of_ble_eq_true rfl⟩) zPu rfl rfl hl.1 rfl (lv_room (Nat.le_of_ble_eq_true rfl)) dL_turn_3 ⟨Nat.le_of_ble_eq_true rfl, Nat.le_of_ble_eq_true rfl⟩) hP hS (fun r_3 H locs hw_3 hP hS => ?_)
  obtain ⟨j_3, hj_3, rfl⟩ := hw_3
  have k50 : ∀ (mj : Nat), mj ≤ 4 → ∀ (H : Heap) (locs : List Loc), va_P (dC, dI) vwCl [(ax, .inr (2, [.ref a0, .ref a1, .ref ae, .ref aw, .int (nI k), .int (nI tn), .int mk, .int wn, .int cnt])), (ao, .inr (1, [.long (lN own), .int lo])), (aq, .inr (1, [.long (lN oth), .int lq])), (rx, .inl (cyI, 32, .inl F)), (rq, .inl (cyI, 7, .inl Qf))] H → va_S (zA [ax, ao, aq, rx, rq]) s.heap H locs → ∀ ls : Array Slot, lv_has ls 9 [(0, .ref ax), (1, .int z), (2, .ref rx), (3, .ref rq)] → W p l e (headSpec wsL_turn ({ frames := 10, cells := 4, slots := 24, locals := 170 })).room s m ([.ref ax, .int z, .ref rx, .ref rq] : List Value).toArray below meth c H locs 0 0 Q (F0 m 50 ls [.int (nI mj)]) := by
    intro mj hmj H locs hP hS ls hl
    refine lv_istore (lv' := [(4, .int (nI mj)), (0, .ref ax), (1, .int z), (2, .ref rx), (3, .ref rq)]) hx hb dL_turn_50 hl (by decide) rfl (fun ls hl => ?_)
    by_cases hm : mk = -1
    · skip
      refine lv_iconst (v := 0) hx hb dL_turn_52 (by decide) ?_
      refine lv_istore (lv' := [(5, .int 0), (4, .int (nI mj)), (0, .ref ax), (1, .int z), (2, .ref rx), (3, .ref rq)]) hx hb dL_turn_53 hl (by decide) rfl (fun ls hl => ?_)
      refine lv_iconst (v := 0) hx hb dL_turn_55 (by decide) ?_
      refine lv_istore (lv' := [(6, .int 0), (5, .int 0), (4, .int (nI mj)), (0, .ref ax), (1, .int z), (2, .ref rx), (3, .ref rq)]) hx hb dL_turn_56 hl (by decide) rfl (fun ls hl => ?_)
      have lc : ∀ (n9 : Nat) (i : Nat) (cv : Nat), i ≤ 15 → cv = zNum own oth mj i → 15 - i < n9 → ∀ (H : Heap) (locs : List Loc), va_P (dC, dI) vwCl [(ax, .inr (2, [.ref a0, .ref a1, .ref ae, .ref aw, .int (nI k), .int (nI tn), .int mk, .int wn, .int cnt])), (ao, .inr (1, [.long (lN own), .int lo])), (aq, .inr (1, [.long (lN oth), .int lq])), (rx, .inl (cyI, 32, .inl F)), (rq, .inl (cyI, 7, .inl Qf))] H → va_S (zA [ax, ao, aq, rx, rq]) s.heap H locs → ∀ ls : Array Slot, lv_has ls 9 [(6, .int (nI i)), (5, .int (nI cv)), (4, .int (nI mj)), (0, .ref ax), (1, .int z), (2, .ref rx), (3, .ref rq)] → W p l e (headSpec wsL_turn ({ frames := 10, cells := 4, slots := 24, locals := 170 })).room s m ([.ref ax, .int z, .ref rx, .ref rq] : List Value).toArray below meth c H locs 0 0 Q (F0 m 58 ls []) := by
        intro n9
        induction n9 with
        | zero => intro i cv hi2 hcv hm9; exact absurd hm9 (Nat.not_lt_zero _)
        | succ n9 ih58 =>
          intro i cv hi2 hcv hm9 H locs hP hS ls hl
          refine lv_iload hx hb dL_turn_58 (lv_at hl 0 rfl) ?_
          refine lv_bipush (v := 15) hx hb dL_turn_60 (by decide) ?_
          refine lv_icmp_ge (tgt := 107) hx hb dL_turn_62 (by decide) (fun c_62 => ?_) (fun c_62 => ?_)
          · skip
            have c_62 : 15 ≤ i := (nI_leI (a := 15) (b := i) (by omega) (by omega)).mp c_62
            obtain rfl : i = 15 := by omega
            have hnl := zNum_le own oth mj 15
            refine lv_aload_n hx hb dL_turn_107 rfl (lv_at hl 6 rfl) ?_
            refine lv_iconst (v := 2) hx hb dL_turn_108 (by decide) ?_
            refine zi_iald hx hb hK hP 4 0 rfl rfl (j := 2) rfl (by omega) (by decide) dL_turn_109 ?_
            refine zz_i (y := mk) hq.2.2.1 ?_
            refine lv_if_ge (tgt := 210) hx hb dL_turn_110 (by decide) (fun c_110 => ?_) (fun c_110 => ?_)
            · skip
              rw [hm] at c_110; exact absurd c_110 (by decide)
            · skip
              refine lv_aload_n hx hb dL_turn_113 rfl (lv_at hl 6 rfl) ?_
              refine lv_iconst (v := 3) hx hb dL_turn_114 (by decide) ?_
              refine zi_iald hx hb hK hP 4 0 rfl rfl (j := 3) rfl (by omega) (by decide) dL_turn_115 ?_
              refine zz_i (y := wn) hq.2.2.2.1 ?_
              refine lv_if_ge (tgt := 123) hx hb dL_turn_116 (by decide) (fun c_116 => ?_) (fun c_116 => ?_)
              · skip
                have c_116 : ¬ wn = -1 := fun h9 => by rw [h9] at c_116; exact absurd c_116 (by decide)
                refine lv_iconst (v := 0) hx hb dL_turn_123 (by decide) ?_
                refine lv_istore (lv' := [(6, .int 0), (5, .int (nI cv)), (4, .int (nI mj)), (0, .ref ax), (1, .int z), (2, .ref rx), (3, .ref rq)]) hx hb dL_turn_124 hl (by decide) rfl (fun ls hl => ?_)
                refine lv_aload_n hx hb dL_turn_126 rfl (lv_at hl 3 rfl) ?_
                refine lv_iload hx hb dL_turn_127 (lv_at hl 2 rfl) ?_
                refine zlw_i (w1 := fun u : Option (Int32 × Int32) => zOp u (fun u : Int32 × Int32 => [(ax, .inr (2, [.ref a0, .ref a1, .ref ae, .ref aw, .int (nI k), .int u.1, .int u.2, .int wn, .int (cnt + 1)])), (ao, .inr (1, [.long (lN own), .int lo])), (aq, .inr (1, [.long (lN oth), .int lq]))]) [(ax, .inr (2, [.ref a0, .ref a1, .ref ae, .ref aw, .int (nI k), .int (nI tn), .int mk, .int wn, .int cnt])), (ao, .inr (1, [.long (lN own), .int lo])), (aq, .inr (1, [.long (lN oth), .int lq]))]) (al := [ax, ao, aq]) (vx_runSX (As := [.ref ax, .int (nI mj)]) (rest := []) ⟨hx, hb, hml, hown, hts⟩ (c_L_tells l hl0 dC dI cyI cyJ tb ax a0 a1 ae aw ao aq mk wn cnt lo lq k tn own oth mm hsd hO hQ hmk hmm mj (by omega) (z_nd hDD.1 [0, 1, 2] (by decide) rfl)) (vx_cwSW 2 hts gL_turn_L_tells rfl rfl rfl (by decide +kernel) ⟨Nat.le_of_ble_eq_true rfl, Nat.le_of_ble_eq_true rfl⟩) (zPc_S zB_G hP hK [0, 1, 2] rfl (zG_at hX hS (zA_pl (al := [ax, ao, aq, rx, rq]) (bl := [ax, ao, aq]) [0, 1, 2] rfl))) rfl rfl hl.1 rfl (lv_room (Nat.le_of_ble_eq_true rfl)) dL_turn_129 ⟨Nat.le_of_ble_eq_true rfl, Nat.le_of_ble_eq_true rfl⟩) hP hDD hS [0, 1, 2] rfl (fun u => by cases u <;> rfl) (fun r9 u9 H locs hw9 hP hS => ?_)
                rcases hw9 with ⟨x8, rfl, hw9⟩ | ⟨rfl, rfl, hw9⟩
                · skip
                  obtain ⟨mj9, g1, g2, g3, g4⟩ := hw9
                  exact absurd g3 c_116
                · skip
                  have hP : va_P (dC, dI) vwCl [(ax, .inr (2, [.ref a0, .ref a1, .ref ae, .ref aw, .int (nI k), .int (nI tn), .int mk, .int wn, .int cnt])), (ao, .inr (1, [.long (lN own), .int lo])), (aq, .inr (1, [.long (lN oth), .int lq])), (rx, .inl (cyI, 32, .inl F)), (rq, .inl (cyI, 7, .inl Qf))] H := hP
                  refine lv_iload hx hb dL_turn_132 (lv_at hl 0 rfl) ?_
                  refine lv_if_eq (tgt := 142) hx hb dL_turn_134 (by decide) (fun _ => ?_) (fun c9 => absurd c9 (by decide))
                  refine lv_bipush (v := -3) hx hb dL_turn_142 (by decide) ?_
                  refine lv_icmp_eq (tgt := 149) hx hb dL_turn_144 (by decide) (fun _ => ?_) (fun c9 => absurd c9 (by decide))
                  refine lv_aload_n hx hb dL_turn_149 rfl (lv_at hl 6 rfl) ?_
                  refine lv_iconst (v := 4) hx hb dL_turn_150 (by decide) ?_
                  refine lv_dup2_11 hx hb dL_turn_151 rfl rfl ?_
                  refine zi_iald hx hb hK hP 4 0 rfl rfl (j := 4) rfl (by omega) (by decide) dL_turn_152 ?_
                  refine zz_i (y := cnt) hq.2.2.2.2.1 ?_
                  refine lv_iload hx hb dL_turn_153 (lv_at hl 0 rfl) ?_
                  refine lv_if_eq (tgt := 162) hx hb dL_turn_155 (by decide) (fun _ => ?_) (fun c9 => absurd c9 (by decide))
                  refine lv_iconst (v := 0) hx hb dL_turn_162 (by decide) ?_
                  refine lv_iadd hx hb dL_turn_163 ?_
                  refine zi_iast hx hb hK hP hDD hS 4 0 rfl rfl (j := 4) rfl (by omega) (by decide) dL_turn_164 (fun H locs hP hS => ?_)
                  have hP : va_P (dC, dI) vwCl [(ax, .inr (2, [.ref a0, .ref a1, .ref ae, .ref aw, .int (nI k), .int (nI tn), .int mk, .int wn, .int cnt])), (ao, .inr (1, [.long (lN own), .int lo])), (aq, .inr (1, [.long (lN oth), .int lq])), (rx, .inl (cyI, 32, .inl F)), (rq, .inl (cyI, 7, .inl (upd Qf 4 (cnt + 0))))] H := hP
                  refine lv_aload_n hx hb dL_turn_165 rfl (lv_at hl 6 rfl) ?_
                  refine lv_iconst (v := 2) hx hb dL_turn_166 (by decide) ?_
                  refine lv_iload hx hb dL_turn_167 (lv_at hl 0 rfl) ?_
                  refine lv_if_eq (tgt := 182) hx hb dL_turn_169 (by decide) (fun _ => ?_) (fun c9 => absurd c9 (by decide))
                  refine lv_iconst (v := -1) hx hb dL_turn_182 (by decide) ?_
                  refine zi_iast hx hb hK hP hDD hS 4 0 rfl rfl (j := 2) rfl (by omega) (by decide) dL_turn_183 (fun H locs hP hS => ?_)
                  have hP : va_P (dC, dI) vwCl [(ax, .inr (2, [.ref a0, .ref a1, .ref ae, .ref aw, .int (nI k), .int (nI tn), .int mk, .int wn, .int cnt])), (ao, .inr (1, [.long (lN own), .int lo])), (aq, .inr (1, [.long (lN oth), .int lq])), (rx, .inl (cyI, 32, .inl F)), (rq, .inl (cyI, 7, .inl (upd (upd Qf 4 (cnt + 0)) 2 (-1))))] H := hP
                  refine lv_aload_n hx hb dL_turn_184 rfl (lv_at hl 6 rfl) ?_
                  refine lv_iconst (v := 1) hx hb dL_turn_185 (by decide) ?_
                  refine lv_iload hx hb dL_turn_186 (lv_at hl 0 rfl) ?_
                  refine lv_if_eq (tgt := 204) hx hb dL_turn_188 (by decide) (fun _ => ?_) (fun c9 => absurd c9 (by decide))
                  refine lv_aload_n hx hb dL_turn_204 rfl (lv_at hl 6 rfl) ?_
                  refine lv_iconst (v := 1) hx hb dL_turn_205 (by decide) ?_
                  refine zi_iald hx hb hK hP 4 0 rfl rfl (j := 1) rfl (by omega) (by decide) dL_turn_206 ?_
                  refine zz_i (y := nI tn) (by rw [pk_un (by omega), pk_un (by omega)]; exact hq.2.1) ?_
                  refine zi_iast hx hb hK hP hDD hS 4 0 rfl rfl (j := 1) rfl (by omega) (by decide) dL_turn_207 (fun H locs hP hS => ?_)
                  have hP : va_P (dC, dI) vwCl [(ax, .inr (2, [.ref a0, .ref a1, .ref ae, .ref aw, .int (nI k), .int (nI tn), .int mk, .int wn, .int cnt])), (ao, .inr (1, [.long (lN own), .int lo])), (aq, .inr (1, [.long (lN oth), .int lq])), (rx, .inl (cyI, 32, .inl F)), (rq, .inl (cyI, 7, .inl (upd (upd (upd Qf 4 (cnt + 0)) 2 (-1)) 1 (nI tn))))] H := hP
                  refine lv_iconst (v := 1) hx hb dL_turn_208 (by decide) ?_
                  subst hQe
                  refine W.widen (k := 4) (n := 24) (Nat.le_of_ble_eq_true rfl) (Nat.le_of_ble_eq_true rfl) ?_
                  exact W.zret (v := 1) hx hb hr rfl (fun t ht hW => ⟨⟨_, (nI tn, mk, wn, cnt, own, lo, oth, lq, F, (upd (upd (upd Qf 4 (cnt + 0)) 2 (-1)) 1 (nI tn))), rfl, ⟨rfl, tn, mm, rfl, Or.inl ⟨rfl, hO, hQ, hg, hr9, hmk, hmm, hwn, hmw, hhas, zQ_won htn hm hq⟩⟩, zh ht hP⟩, hS.F ht⟩) hS.2.2 dL_turn_209
              · skip
                have c_116 : wn = -1 := (zwn_lt hwn).mp (Int32.not_le.mp c_116)
                refine lv_iconst (v := 1) hx hb dL_turn_119 (by decide) ?_
                refine lv_goto (tgt := 124) hx hb dL_turn_120 (by decide) ?_
                refine lv_istore (lv' := [(6, .int 1), (5, .int (nI cv)), (4, .int (nI mj)), (0, .ref ax), (1, .int z), (2, .ref rx), (3, .ref rq)]) hx hb dL_turn_124 hl (by decide) rfl (fun ls hl => ?_)
                refine lv_aload_n hx hb dL_turn_126 rfl (lv_at hl 3 rfl) ?_
                refine lv_iload hx hb dL_turn_127 (lv_at hl 2 rfl) ?_
                refine zlw_i (w1 := fun u : Option (Int32 × Int32) => zOp u (fun u : Int32 × Int32 => [(ax, .inr (2, [.ref a0, .ref a1, .ref ae, .ref aw, .int (nI k), .int u.1, .int u.2, .int wn, .int (cnt + 1)])), (ao, .inr (1, [.long (lN own), .int lo])), (aq, .inr (1, [.long (lN oth), .int lq]))]) [(ax, .inr (2, [.ref a0, .ref a1, .ref ae, .ref aw, .int (nI k), .int (nI tn), .int mk, .int wn, .int cnt])), (ao, .inr (1, [.long (lN own), .int lo])), (aq, .inr (1, [.long (lN oth), .int lq]))]) (al := [ax, ao, aq]) (vx_runSX (As := [.ref ax, .int (nI mj)]) (rest := []) ⟨hx, hb, hml, hown, hts⟩ (c_L_tells l hl0 dC dI cyI cyJ tb ax a0 a1 ae aw ao aq mk wn cnt lo lq k tn own oth mm hsd hO hQ hmk hmm mj (by omega) (z_nd hDD.1 [0, 1, 2] (by decide) rfl)) (vx_cwSW 2 hts gL_turn_L_tells rfl rfl rfl (by decide +kernel) ⟨Nat.le_of_ble_eq_true rfl, Nat.le_of_ble_eq_true rfl⟩) (zPc_S zB_G hP hK [0, 1, 2] rfl (zG_at hX hS (zA_pl (al := [ax, ao, aq, rx, rq]) (bl := [ax, ao, aq]) [0, 1, 2] rfl))) rfl rfl hl.1 rfl (lv_room (Nat.le_of_ble_eq_true rfl)) dL_turn_129 ⟨Nat.le_of_ble_eq_true rfl, Nat.le_of_ble_eq_true rfl⟩) hP hDD hS [0, 1, 2] rfl (fun u => by cases u <;> rfl) (fun r9 u9 H locs hw9 hP hS => ?_)
                rcases hw9 with ⟨x8, rfl, hw9⟩ | ⟨rfl, rfl, hw9⟩
                · skip
                  obtain ⟨t8, m8⟩ := x8
                  obtain ⟨mj9, g1, g2, g3, g4, g5, g6, g7⟩ := hw9
                  obtain rfl : mj = mj9 := (nI_eq (by omega) (by omega)).mp g2
                  have q6 : t8 = (if zNum own oth mj 15 = 0 then nI (1 - tn) else nI tn) := g6
                  have q7 : m8 = (if zNum own oth mj 15 = 0 then -1 else nI mj) := g7
                  clear g6 g7
                  by_cases hz : zNum own oth mj 15 = 0
                  · skip
                    rw [if_pos hz] at q6 q7
                    subst q6 q7
                    have hP : va_P (dC, dI) vwCl [(ax, .inr (2, [.ref a0, .ref a1, .ref ae, .ref aw, .int (nI k), .int (nI (1 - tn)), .int (-1), .int wn, .int (cnt + 1)])), (ao, .inr (1, [.long (lN own), .int lo])), (aq, .inr (1, [.long (lN oth), .int lq])), (rx, .inl (cyI, 32, .inl F)), (rq, .inl (cyI, 7, .inl Qf))] H := hP
                    refine zz_i (y := nI (zNum own oth mj 15)) g5 ?_
                    refine lv_iload hx hb dL_turn_132 (lv_at hl 0 rfl) ?_
                    refine lv_if_eq (tgt := 142) hx hb dL_turn_134 (by decide) (fun c9 => absurd c9 (by decide)) (fun _ => ?_)
                    refine lv_iload hx hb dL_turn_137 (lv_at hl 1 rfl) ?_
                    refine lv_goto (tgt := 144) hx hb dL_turn_139 (by decide) ?_
                    refine lv_icmp_eq (tgt := 149) hx hb dL_turn_144 (by decide) (fun c_144 => ?_) (fun c_144 => ?_)
                    · skip
                      have c_144 : (zNum own oth mj 15) = cv := (nI_eq (a := zNum own oth mj 15) (b := cv) (by omega) (by omega)).mp c_144
                      refine lv_aload_n hx hb dL_turn_149 rfl (lv_at hl 6 rfl) ?_
                      refine lv_iconst (v := 4) hx hb dL_turn_150 (by decide) ?_
                      refine lv_dup2_11 hx hb dL_turn_151 rfl rfl ?_
                      refine zi_iald hx hb hK hP 4 0 rfl rfl (j := 4) rfl (by omega) (by decide) dL_turn_152 ?_
                      refine zz_i (y := cnt) hq.2.2.2.2.1 ?_
                      refine lv_iload hx hb dL_turn_153 (lv_at hl 0 rfl) ?_
                      refine lv_if_eq (tgt := 162) hx hb dL_turn_155 (by decide) (fun c9 => absurd c9 (by decide)) (fun _ => ?_)
                      refine lv_iconst (v := 1) hx hb dL_turn_158 (by decide) ?_
                      refine lv_goto (tgt := 163) hx hb dL_turn_159 (by decide) ?_
                      refine lv_iadd hx hb dL_turn_163 ?_
                      refine zi_iast hx hb hK hP hDD hS 4 0 rfl rfl (j := 4) rfl (by omega) (by decide) dL_turn_164 (fun H locs hP hS => ?_)
                      have hP : va_P (dC, dI) vwCl [(ax, .inr (2, [.ref a0, .ref a1, .ref ae, .ref aw, .int (nI k), .int (nI (1 - tn)), .int (-1), .int wn, .int (cnt + 1)])), (ao, .inr (1, [.long (lN own), .int lo])), (aq, .inr (1, [.long (lN oth), .int lq])), (rx, .inl (cyI, 32, .inl F)), (rq, .inl (cyI, 7, .inl (upd Qf 4 (cnt + 1))))] H := hP
                      refine lv_aload_n hx hb dL_turn_165 rfl (lv_at hl 6 rfl) ?_
                      refine lv_iconst (v := 2) hx hb dL_turn_166 (by decide) ?_
                      refine lv_iload hx hb dL_turn_167 (lv_at hl 0 rfl) ?_
                      refine lv_if_eq (tgt := 182) hx hb dL_turn_169 (by decide) (fun c9 => absurd c9 (by decide)) (fun _ => ?_)
                      refine lv_iload hx hb dL_turn_172 (lv_at hl 1 rfl) ?_
                      refine lv_if_le (tgt := 182) hx hb dL_turn_174 (by decide) (fun c_174 => ?_) (fun c_174 => ?_)
                      · skip
                        have c_174 : cv ≤ 0 := (nI_leI (a := cv) (b := 0) (by omega) (by omega)).mp c_174
                        refine lv_iconst (v := -1) hx hb dL_turn_182 (by decide) ?_
                        refine zi_iast hx hb hK hP hDD hS 4 0 rfl rfl (j := 2) rfl (by omega) (by decide) dL_turn_183 (fun H locs hP hS => ?_)
                        have hP : va_P (dC, dI) vwCl [(ax, .inr (2, [.ref a0, .ref a1, .ref ae, .ref aw, .int (nI k), .int (nI (1 - tn)), .int (-1), .int wn, .int (cnt + 1)])), (ao, .inr (1, [.long (lN own), .int lo])), (aq, .inr (1, [.long (lN oth), .int lq])), (rx, .inl (cyI, 32, .inl F)), (rq, .inl (cyI, 7, .inl (upd (upd Qf 4 (cnt + 1)) 2 (-1))))] H := hP
                        refine lv_aload_n hx hb dL_turn_184 rfl (lv_at hl 6 rfl) ?_
                        refine lv_iconst (v := 1) hx hb dL_turn_185 (by decide) ?_
                        refine lv_iload hx hb dL_turn_186 (lv_at hl 0 rfl) ?_
                        refine lv_if_eq (tgt := 204) hx hb dL_turn_188 (by decide) (fun c9 => absurd c9 (by decide)) (fun _ => ?_)
                        refine lv_iload hx hb dL_turn_191 (lv_at hl 1 rfl) ?_
                        refine lv_if_ne (tgt := 204) hx hb dL_turn_193 (by decide) (fun c_193 => ?_) (fun c_193 => ?_)
                        · skip
                          have c_193 : ¬ cv = 0 := fun h9 => c_193 ((nI_eq (a := cv) (b := 0) (by omega) (by omega)).mpr h9)
                          exact absurd (by omega) c_193
                        · skip
                          have c_193 : cv = 0 := (nI_eq (a := cv) (b := 0) (by omega) (by omega)).mp c_193
                          refine lv_iconst (v := 1) hx hb dL_turn_196 (by decide) ?_
                          refine lv_aload_n hx hb dL_turn_197 rfl (lv_at hl 6 rfl) ?_
                          refine lv_iconst (v := 1) hx hb dL_turn_198 (by decide) ?_
                          refine zi_iald hx hb hK hP 4 0 rfl rfl (j := 1) rfl (by omega) (by decide) dL_turn_199 ?_
                          refine zz_i (y := nI tn) (by rw [pk_un (by omega), pk_un (by omega)]; exact hq.2.1) ?_
                          refine lv_isub hx hb dL_turn_200 ?_
                          refine zz_i (y := nI (1 - tn)) (pk_sub (a := 1) (b := tn) (by omega)) ?_
                          refine lv_goto (tgt := 207) hx hb dL_turn_201 (by decide) ?_
                          refine zi_iast hx hb hK hP hDD hS 4 0 rfl rfl (j := 1) rfl (by omega) (by decide) dL_turn_207 (fun H locs hP hS => ?_)
                          have hP : va_P (dC, dI) vwCl [(ax, .inr (2, [.ref a0, .ref a1, .ref ae, .ref aw, .int (nI k), .int (nI (1 - tn)), .int (-1), .int wn, .int (cnt + 1)])), (ao, .inr (1, [.long (lN own), .int lo])), (aq, .inr (1, [.long (lN oth), .int lq])), (rx, .inl (cyI, 32, .inl F)), (rq, .inl (cyI, 7, .inl (upd (upd (upd Qf 4 (cnt + 1)) 2 (-1)) 1 (nI (1 - tn)))))] H := hP
                          refine lv_iconst (v := 1) hx hb dL_turn_208 (by decide) ?_
                          subst hQe
                          refine W.widen (k := 4) (n := 24) (Nat.le_of_ble_eq_true rfl) (Nat.le_of_ble_eq_true rfl) ?_
                          exact W.zret (v := 1) hx hb hr rfl (fun t ht hW => ⟨⟨_, (nI (1 - tn), -1, wn, cnt + 1, own, lo, oth, lq, F, (upd (upd (upd Qf 4 (cnt + 1)) 2 (-1)) 1 (nI (1 - tn)))), rfl, ⟨rfl, 1 - tn, 0, rfl, Or.inr ⟨rfl, hQ, hO, hg.sw, hr9.sw htn, Or.inr ⟨rfl, rfl⟩, by decide, hwn, Or.inl rfl, (fun h => absurd rfl h), zQ_pass htn hq⟩⟩, zh ht hP⟩, hS.F ht⟩) hS.2.2 dL_turn_209
                      · skip
                        have c_174 : ¬ cv ≤ 0 := fun h9 => c_174 ((nI_leI (a := cv) (b := 0) (by omega) (by omega)).mpr h9)
                        exact absurd (by omega) c_174
                    · skip
                      have c_144 : ¬ (zNum own oth mj 15) = cv := fun h9 => c_144 ((nI_eq (a := zNum own oth mj 15) (b := cv) (by omega) (by omega)).mpr h9)
                      exact absurd (by omega) c_144
                  · skip
                    rw [if_neg hz] at q6 q7
                    subst q6 q7
                    have hP : va_P (dC, dI) vwCl [(ax, .inr (2, [.ref a0, .ref a1, .ref ae, .ref aw, .int (nI k), .int (nI tn), .int (nI mj), .int wn, .int (cnt + 1)])), (ao, .inr (1, [.long (lN own), .int lo])), (aq, .inr (1, [.long (lN oth), .int lq])), (rx, .inl (cyI, 32, .inl F)), (rq, .inl (cyI, 7, .inl Qf))] H := hP
                    refine zz_i (y := nI (zNum own oth mj 15)) g5 ?_
                    refine lv_iload hx hb dL_turn_132 (lv_at hl 0 rfl) ?_
                    refine lv_if_eq (tgt := 142) hx hb dL_turn_134 (by decide) (fun c9 => absurd c9 (by decide)) (fun _ => ?_)
                    refine lv_iload hx hb dL_turn_137 (lv_at hl 1 rfl) ?_
                    refine lv_goto (tgt := 144) hx hb dL_turn_139 (by decide) ?_
                    refine lv_icmp_eq (tgt := 149) hx hb dL_turn_144 (by decide) (fun c_144 => ?_) (fun c_144 => ?_)
                    · skip
                      have c_144 : (zNum own oth mj 15) = cv := (nI_eq (a := zNum own oth mj 15) (b := cv) (by omega) (by omega)).mp c_144
                      refine lv_aload_n hx hb dL_turn_149 rfl (lv_at hl 6 rfl) ?_
                      refine lv_iconst (v := 4) hx hb dL_turn_150 (by decide) ?_
                      refine lv_dup2_11 hx hb dL_turn_151 rfl rfl ?_
                      refine zi_iald hx hb hK hP 4 0 rfl rfl (j := 4) rfl (by omega) (by decide) dL_turn_152 ?_
                      refine zz_i (y := cnt) hq.2.2.2.2.1 ?_
                      refine lv_iload hx hb dL_turn_153 (lv_at hl 0 rfl) ?_
                      refine lv_if_eq (tgt := 162) hx hb dL_turn_155 (by decide) (fun c9 => absurd c9 (by decide)) (fun _ => ?_)
                      refine lv_iconst (v := 1) hx hb dL_turn_158 (by decide) ?_
                      refine lv_goto (tgt := 163) hx hb dL_turn_159 (by decide) ?_
                      refine lv_iadd hx hb dL_turn_163 ?_
                      refine zi_iast hx hb hK hP hDD hS 4 0 rfl rfl (j := 4) rfl (by omega) (by decide) dL_turn_164 (fun H locs hP hS => ?_)
                      have hP : va_P (dC, dI) vwCl [(ax, .inr (2, [.ref a0, .ref a1, .ref ae, .ref aw, .int (nI k), .int (nI tn), .int (nI mj), .int wn, .int (cnt + 1)])), (ao, .inr (1, [.long (lN own), .int lo])), (aq, .inr (1, [.long (lN oth), .int lq])), (rx, .inl (cyI, 32, .inl F)), (rq, .inl (cyI, 7, .inl (upd Qf 4 (cnt + 1))))] H := hP
                      refine lv_aload_n hx hb dL_turn_165 rfl (lv_at hl 6 rfl) ?_
                      refine lv_iconst (v := 2) hx hb dL_turn_166 (by decide) ?_
                      refine lv_iload hx hb dL_turn_167 (lv_at hl 0 rfl) ?_
                      refine lv_if_eq (tgt := 182) hx hb dL_turn_169 (by decide) (fun c9 => absurd c9 (by decide)) (fun _ => ?_)
                      refine lv_iload hx hb dL_turn_172 (lv_at hl 1 rfl) ?_
                      refine lv_if_le (tgt := 182) hx hb dL_turn_174 (by decide) (fun c_174 => ?_) (fun c_174 => ?_)
                      · skip
                        have c_174 : cv ≤ 0 := (nI_leI (a := cv) (b := 0) (by omega) (by omega)).mp c_174
                        exact absurd (by omega) hz
                      · skip
                        have c_174 : ¬ cv ≤ 0 := fun h9 => c_174 ((nI_leI (a := cv) (b := 0) (by omega) (by omega)).mpr h9)
                        refine lv_iload hx hb dL_turn_177 (lv_at hl 2 rfl) ?_
                        refine lv_goto (tgt := 183) hx hb dL_turn_179 (by decide) ?_
                        refine zi_iast hx hb hK hP hDD hS 4 0 rfl rfl (j := 2) rfl (by omega) (by decide) dL_turn_183 (fun H locs hP hS => ?_)
                        have hP : va_P (dC, dI) vwCl [(ax, .inr (2, [.ref a0, .ref a1, .ref ae, .ref aw, .int (nI k), .int (nI tn), .int (nI mj), .int wn, .int (cnt + 1)])), (ao, .inr (1, [.long (lN own), .int lo])), (aq, .inr (1, [.long (lN oth), .int lq])), (rx, .inl (cyI, 32, .inl F)), (rq, .inl (cyI, 7, .inl (upd (upd Qf 4 (cnt + 1)) 2 (nI mj))))] H := hP
                        refine lv_aload_n hx hb dL_turn_184 rfl (lv_at hl 6 rfl) ?_
                        refine lv_iconst (v := 1) hx hb dL_turn_185 (by decide) ?_
                        refine lv_iload hx hb dL_turn_186 (lv_at hl 0 rfl) ?_
                        refine lv_if_eq (tgt := 204) hx hb dL_turn_188 (by decide) (fun c9 => absurd c9 (by decide)) (fun _ => ?_)
                        refine lv_iload hx hb dL_turn_191 (lv_at hl 1 rfl) ?_
                        refine lv_if_ne (tgt := 204) hx hb dL_turn_193 (by decide) (fun c_193 => ?_) (fun c_193 => ?_)
                        · skip
                          have c_193 : ¬ cv = 0 := fun h9 => c_193 ((nI_eq (a := cv) (b := 0) (by omega) (by omega)).mpr h9)
                          refine lv_aload_n hx hb dL_turn_204 rfl (lv_at hl 6 rfl) ?_
                          refine lv_iconst (v := 1) hx hb dL_turn_205 (by decide) ?_
                          refine zi_iald hx hb hK hP 4 0 rfl rfl (j := 1) rfl (by omega) (by decide) dL_turn_206 ?_
                          refine zz_i (y := nI tn) (by rw [pk_un (by omega), pk_un (by omega)]; exact hq.2.1) ?_
                          refine zi_iast hx hb hK hP hDD hS 4 0 rfl rfl (j := 1) rfl (by omega) (by decide) dL_turn_207 (fun H locs hP hS => ?_)
                          have hP : va_P (dC, dI) vwCl [(ax, .inr (2, [.ref a0, .ref a1, .ref ae, .ref aw, .int (nI k), .int (nI tn), .int (nI mj), .int wn, .int (cnt + 1)])), (ao, .inr (1, [.long (lN own), .int lo])), (aq, .inr (1, [.long (lN oth), .int lq])), (rx, .inl (cyI, 32, .inl F)), (rq, .inl (cyI, 7, .inl (upd (upd (upd Qf 4 (cnt + 1)) 2 (nI mj)) 1 (nI tn))))] H := hP
                          refine lv_iconst (v := 1) hx hb dL_turn_208 (by decide) ?_
                          subst hQe
                          refine W.widen (k := 4) (n := 24) (Nat.le_of_ble_eq_true rfl) (Nat.le_of_ble_eq_true rfl) ?_
                          exact W.zret (v := 1) hx hb hr rfl (fun t ht hW => ⟨⟨_, (nI tn, nI mj, wn, cnt + 1, own, lo, oth, lq, F, (upd (upd (upd Qf 4 (cnt + 1)) 2 (nI mj)) 1 (nI tn))), rfl, ⟨rfl, tn, mj, rfl, Or.inl ⟨rfl, hO, hQ, hg, hr9, Or.inl rfl, hmj, hwn, Or.inr c_116, (fun _ => (zHas_num own oth mj 15).mpr hz), zQ_told htn hq⟩⟩, zh ht hP⟩, hS.F ht⟩) hS.2.2 dL_turn_209
                        · skip
                          have c_193 : cv = 0 := (nI_eq (a := cv) (b := 0) (by omega) (by omega)).mp c_193
                          exact absurd (by omega) hz
                    · skip
                      have c_144 : ¬ (zNum own oth mj 15) = cv := fun h9 => c_144 ((nI_eq (a := zNum own oth mj 15) (b := cv) (by omega) (by omega)).mpr h9)
                      exact absurd (by omega) c_144
                · skip
                  exact absurd ⟨c_116, hm⟩ hw9
          · skip
            have c_62 : ¬ 15 ≤ i := fun h9 => c_62 ((nI_leI (a := 15) (b := i) (by omega) (by omega)).mpr h9)
            refine lv_iload hx hb dL_turn_65 (lv_at hl 1 rfl) ?_
            refine lv_aload_n hx hb dL_turn_67 rfl (lv_at hl 5 rfl) ?_
            refine lv_aload_n hx hb dL_turn_68 rfl (lv_at hl 6 rfl) ?_
            refine lv_iconst (v := 1) hx hb dL_turn_69 (by decide) ?_
            refine zi_iald hx hb hK hP 4 0 rfl rfl (j := 1) rfl (by omega) (by decide) dL_turn_70 ?_
            refine zz_i (y := nI tn) hq.2.1 ?_
            refine lv_iload hx hb dL_turn_71 (lv_at hl 0 rfl) ?_
            refine lv_aload_n hx hb dL_turn_73 rfl (lv_at hl 6 rfl) ?_
            refine lv_iconst (v := 2) hx hb dL_turn_74 (by decide) ?_
            refine zi_iald hx hb hK hP 4 0 rfl rfl (j := 2) rfl (by omega) (by decide) dL_turn_75 ?_
            refine zz_i (y := mk) hq.2.2.1 ?_
            refine lv_if_ge (tgt := 84) hx hb dL_turn_76 (by decide) (fun c_76 => ?_) (fun c_76 => ?_)
            · skip
              rw [hm] at c_76; exact absurd c_76 (by decide)
            · skip
              refine lv_iload hx hb dL_turn_79 (lv_at hl 2 rfl) ?_
              refine lv_goto (tgt := 87) hx hb dL_turn_81 (by decide) ?_
              refine zro_i (va_runS (As := [.ref rx, .int (nI tn), .int (nI i), .int (nI mj)]) (rest := [.int (nI cv)]) ⟨hx, hb, hml, hown, hts⟩ (c_L_can l dC dI cyI cyJ rx F tn own oth (by omega) hr9 i mj (by omega) (by omega)) (va_cwS 4 hts gL_turn_L_can rfl rfl rfl (by decide +kernel) ⟨Nat.le_of_ble_eq_true rfl, Nat.le_of_ble_eq_true rfl⟩) (zPc_S zB_T hP hK [3] rfl (fun _ _ _ => trivial)) rfl rfl hl.1 rfl (lv_room (Nat.le_of_ble_eq_true rfl)) dL_turn_87 ⟨Nat.le_of_ble_eq_true rfl, Nat.le_of_ble_eq_true rfl⟩) hP hS (fun H locs hP hS => ?_)
              refine lv_if_eq (tgt := 97) hx hb dL_turn_90 (by decide) (fun c_90 => ?_) (fun c_90 => ?_)
              · skip
                have c_90 := bI_0.mp c_90
                refine lv_iconst (v := 0) hx hb dL_turn_97 (by decide) ?_
                refine lv_iadd hx hb dL_turn_98 ?_
                refine zz_i (y := nI (cv + 0)) (nI_add cv 0) ?_
                refine lv_istore (lv' := [(5, .int (nI (cv + 0))), (6, .int (nI i)), (4, .int (nI mj)), (0, .ref ax), (1, .int z), (2, .ref rx), (3, .ref rq)]) hx hb dL_turn_99 hl (by decide) rfl (fun ls hl => ?_)
                refine lv_iinc (v := nI (i + 1)) (lv' := [(6, .int (nI (i + 1))), (5, .int (nI (cv + 0))), (4, .int (nI mj)), (0, .ref ax), (1, .int z), (2, .ref rx), (3, .ref rq)]) hx hb dL_turn_101 hl (k := 1) rfl (nI_1 i) (by decide) rfl (fun ls hl => ?_)
                refine lv_goto (tgt := 58) hx hb dL_turn_104 (by decide) ?_
                exact ih58 (i + 1) _ (by omega) (by rw [zNum_s, if_neg (by rw [c_90]; decide), hcv]) (by omega) _ _ hP hS _ (lv_sub hl [0, 1, 2, 3, 4, 5, 6] rfl)
              · skip
                have c_90 := bI_1.mp c_90
                refine lv_iconst (v := 1) hx hb dL_turn_93 (by decide) ?_
                refine lv_goto (tgt := 98) hx hb dL_turn_94 (by decide) ?_
                refine lv_iadd hx hb dL_turn_98 ?_
                refine zz_i (y := nI (cv + 1)) (nI_add cv 1) ?_
                refine lv_istore (lv' := [(5, .int (nI (cv + 1))), (6, .int (nI i)), (4, .int (nI mj)), (0, .ref ax), (1, .int z), (2, .ref rx), (3, .ref rq)]) hx hb dL_turn_99 hl (by decide) rfl (fun ls hl => ?_)
                refine lv_iinc (v := nI (i + 1)) (lv' := [(6, .int (nI (i + 1))), (5, .int (nI (cv + 1))), (4, .int (nI mj)), (0, .ref ax), (1, .int z), (2, .ref rx), (3, .ref rq)]) hx hb dL_turn_101 hl (k := 1) rfl (nI_1 i) (by decide) rfl (fun ls hl => ?_)
                refine lv_goto (tgt := 58) hx hb dL_turn_104 (by decide) ?_
                exact ih58 (i + 1) _ (by omega) (by rw [zNum_s, if_pos c_90, hcv]) (by omega) _ _ hP hS _ (lv_sub hl [0, 1, 2, 3, 4, 5, 6] rfl)
      exact lc 16 0 0 (by omega) rfl (by omega) _ _ hP hS _ (lv_sub hl [0, 1, 2, 3, 4, 5, 6] rfl)
    · skip
      refine lv_iconst (v := 0) hx hb dL_turn_52 (by decide) ?_
      refine lv_istore (lv' := [(5, .int 0), (4, .int (nI mj)), (0, .ref ax), (1, .int z), (2, .ref rx), (3, .ref rq)]) hx hb dL_turn_53 hl (by decide) rfl (fun ls hl => ?_)
      refine lv_iconst (v := 0) hx hb dL_turn_55 (by decide) ?_
      refine lv_istore (lv' := [(6, .int 0), (5, .int 0), (4, .int (nI mj)), (0, .ref ax), (1, .int z), (2, .ref rx), (3, .ref rq)]) hx hb dL_turn_56 hl (by decide) rfl (fun ls hl => ?_)
      have lc : ∀ (n9 : Nat) (i : Nat) (cv : Nat), i ≤ 15 → cv = zNum own oth mm i → 15 - i < n9 → ∀ (H : Heap) (locs : List Loc), va_P (dC, dI) vwCl [(ax, .inr (2, [.ref a0, .ref a1, .ref ae, .ref aw, .int (nI k), .int (nI tn), .int mk, .int wn, .int cnt])), (ao, .inr (1, [.long (lN own), .int lo])), (aq, .inr (1, [.long (lN oth), .int lq])), (rx, .inl (cyI, 32, .inl F)), (rq, .inl (cyI, 7, .inl Qf))] H → va_S (zA [ax, ao, aq, rx, rq]) s.heap H locs → ∀ ls : Array Slot, lv_has ls 9 [(6, .int (nI i)), (5, .int (nI cv)), (4, .int (nI mj)), (0, .ref ax), (1, .int z), (2, .ref rx), (3, .ref rq)] → W p l e (headSpec wsL_turn ({ frames := 10, cells := 4, slots := 24, locals := 170 })).room s m ([.ref ax, .int z, .ref rx, .ref rq] : List Value).toArray below meth c H locs 0 0 Q (F0 m 58 ls []) := by
        intro n9
        induction n9 with
        | zero => intro i cv hi2 hcv hm9; exact absurd hm9 (Nat.not_lt_zero _)
        | succ n9 ih58 =>
          intro i cv hi2 hcv hm9 H locs hP hS ls hl
          refine lv_iload hx hb dL_turn_58 (lv_at hl 0 rfl) ?_
          refine lv_bipush (v := 15) hx hb dL_turn_60 (by decide) ?_
          refine lv_icmp_ge (tgt := 107) hx hb dL_turn_62 (by decide) (fun c_62 => ?_) (fun c_62 => ?_)
          · skip
            have c_62 : 15 ≤ i := (nI_leI (a := 15) (b := i) (by omega) (by omega)).mp c_62
            obtain rfl : i = 15 := by omega
            have hnl := zNum_le own oth mm 15
            refine lv_aload_n hx hb dL_turn_107 rfl (lv_at hl 6 rfl) ?_
            refine lv_iconst (v := 2) hx hb dL_turn_108 (by decide) ?_
            refine zi_iald hx hb hK hP 4 0 rfl rfl (j := 2) rfl (by omega) (by decide) dL_turn_109 ?_
            refine zz_i (y := mk) hq.2.2.1 ?_
            refine lv_if_ge (tgt := 210) hx hb dL_turn_110 (by decide) (fun c_110 => ?_) (fun c_110 => ?_)
            · skip
              refine lv_iload_n hx hb dL_turn_210 rfl (lv_at hl 4 rfl) ?_
              refine lv_iconst (v := 4) hx hb dL_turn_211 (by decide) ?_
              refine lv_ishr hx hb dL_turn_212 ?_
              refine lv_bipush (v := 15) hx hb dL_turn_213 (by decide) ?_
              refine zre_i (va_runS (As := [.int (z >>> (4 &&& 31)), .int 15]) (rest := []) ⟨hx, hb, hml, hown, hts⟩ (c_L_low l (z >>> (4 &&& 31)) 15 (by omega) (by omega)) (va_cwS 2 hts gL_turn_L_low rfl rfl rfl (by decide +kernel) ⟨Nat.le_of_ble_eq_true rfl, Nat.le_of_ble_eq_true rfl⟩) zPu rfl rfl hl.1 rfl (lv_room (Nat.le_of_ble_eq_true rfl)) dL_turn_215 ⟨Nat.le_of_ble_eq_true rfl, Nat.le_of_ble_eq_true rfl⟩) hP hS (fun r_215 H locs hw_215 hP hS => ?_)
              obtain ⟨j_215, hj_215, rfl⟩ := hw_215
              refine lv_istore (lv' := [(6, .int (nI j_215)), (5, .int (nI cv)), (4, .int (nI mj)), (0, .ref ax), (1, .int z), (2, .ref rx), (3, .ref rq)]) hx hb dL_turn_218 hl (by decide) rfl (fun ls hl => ?_)
              refine lv_iconst (v := 0) hx hb dL_turn_220 (by decide) ?_
              refine lv_istore (lv' := [(7, .int 0), (6, .int (nI j_215)), (5, .int (nI cv)), (4, .int (nI mj)), (0, .ref ax), (1, .int z), (2, .ref rx), (3, .ref rq)]) hx hb dL_turn_221 hl (by decide) rfl (fun ls hl => ?_)
              have k271 : ∀ (pl : Nat), pl ≤ 14 → ∀ (H : Heap) (locs : List Loc), va_P (dC, dI) vwCl [(ax, .inr (2, [.ref a0, .ref a1, .ref ae, .ref aw, .int (nI k), .int (nI tn), .int mk, .int wn, .int cnt])), (ao, .inr (1, [.long (lN own), .int lo])), (aq, .inr (1, [.long (lN oth), .int lq])), (rx, .inl (cyI, 32, .inl F)), (rq, .inl (cyI, 7, .inl Qf))] H → va_S (zA [ax, ao, aq, rx, rq]) s.heap H locs → ∀ ls : Array Slot, lv_has ls 9 [(6, .int (nI pl)), (4, .int (nI mj)), (0, .ref ax), (1, .int z), (2, .ref rx), (3, .ref rq)] → W p l e (headSpec wsL_turn ({ frames := 10, cells := 4, slots := 24, locals := 170 })).room s m ([.ref ax, .int z, .ref rx, .ref rq] : List Value).toArray below meth c H locs 0 0 Q (F0 m 271 ls []) := by
                intro pl hpl H locs hP hS ls hl
                refine lv_aload_n hx hb dL_turn_271 rfl (lv_at hl 4 rfl) ?_
                refine lv_aload_n hx hb dL_turn_272 rfl (lv_at hl 5 rfl) ?_
                refine lv_iconst (v := 1) hx hb dL_turn_273 (by decide) ?_
                refine zi_iald hx hb hK hP 4 0 rfl rfl (j := 1) rfl (by omega) (by decide) dL_turn_274 ?_
                refine zz_i (y := nI tn) hq.2.1 ?_
                refine lv_iload hx hb dL_turn_275 (lv_at hl 0 rfl) ?_
                refine lv_aload_n hx hb dL_turn_277 rfl (lv_at hl 5 rfl) ?_
                refine lv_iconst (v := 2) hx hb dL_turn_278 (by decide) ?_
                refine zi_iald hx hb hK hP 4 0 rfl rfl (j := 2) rfl (by omega) (by decide) dL_turn_279 ?_
                refine zz_i (y := nI mm) (hq.2.2.1.trans (zmk_ne hmk hm)) ?_
                refine zro_i (va_runS (As := [.ref rx, .int (nI tn), .int (nI pl), .int (nI mm)]) (rest := []) ⟨hx, hb, hml, hown, hts⟩ (c_L_can l dC dI cyI cyJ rx F tn own oth (by omega) hr9 pl mm (by omega) (by omega)) (va_cwS 4 hts gL_turn_L_can rfl rfl rfl (by decide +kernel) ⟨Nat.le_of_ble_eq_true rfl, Nat.le_of_ble_eq_true rfl⟩) (zPc_S zB_T hP hK [3] rfl (fun _ _ _ => trivial)) rfl rfl hl.1 rfl (lv_room (Nat.le_of_ble_eq_true rfl)) dL_turn_280 ⟨Nat.le_of_ble_eq_true rfl, Nat.le_of_ble_eq_true rfl⟩) hP hS (fun H locs hP hS => ?_)
                refine lv_istore (lv' := [(7, .int (bI (zcm own oth pl mm))), (6, .int (nI pl)), (4, .int (nI mj)), (0, .ref ax), (1, .int z), (2, .ref rx), (3, .ref rq)]) hx hb dL_turn_283 hl (by decide) rfl (fun ls hl => ?_)
                refine lv_iload hx hb dL_turn_285 (lv_at hl 1 rfl) ?_
                refine lv_aload_n hx hb dL_turn_287 rfl (lv_at hl 6 rfl) ?_
                refine lv_iconst (v := 2) hx hb dL_turn_288 (by decide) ?_
                refine zi_iald hx hb hK hP 4 0 rfl rfl (j := 2) rfl (by omega) (by decide) dL_turn_289 ?_
                refine zz_i (y := nI mm) (hq.2.2.1.trans (zmk_ne hmk hm)) ?_
                refine lv_iadd hx hb dL_turn_290 ?_
                refine zz_i (y := nI (pl + mm)) (nI_add pl mm) ?_
                refine lv_istore (lv' := [(8, .int (nI (pl + mm))), (7, .int (bI (zcm own oth pl mm))), (6, .int (nI pl)), (4, .int (nI mj)), (0, .ref ax), (1, .int z), (2, .ref rx), (3, .ref rq)]) hx hb dL_turn_291 hl (by decide) rfl (fun ls hl => ?_)
                refine lv_aload_n hx hb dL_turn_293 rfl (lv_at hl 4 rfl) ?_
                refine lv_iload hx hb dL_turn_294 (lv_at hl 3 rfl) ?_
                refine zlw_i (w1 := fun u : Option (Int32 × Int32) => zOp u (fun u : Int32 × Int32 => [(ax, .inr (2, [.ref a0, .ref a1, .ref ae, .ref aw, .int (nI k), .int u.1, .int u.2, .int wn, .int (cnt + 1)])), (ao, .inr (1, [.long (lN own), .int lo])), (aq, .inr (1, [.long (lN oth), .int lq]))]) [(ax, .inr (2, [.ref a0, .ref a1, .ref ae, .ref aw, .int (nI k), .int (nI tn), .int mk, .int wn, .int cnt])), (ao, .inr (1, [.long (lN own), .int lo])), (aq, .inr (1, [.long (lN oth), .int lq]))]) (al := [ax, ao, aq]) (vx_runSX (As := [.ref ax, .int (nI mj)]) (rest := []) ⟨hx, hb, hml, hown, hts⟩ (c_L_tells l hl0 dC dI cyI cyJ tb ax a0 a1 ae aw ao aq mk wn cnt lo lq k tn own oth mm hsd hO hQ hmk hmm mj (by omega) (z_nd hDD.1 [0, 1, 2] (by decide) rfl)) (vx_cwSW 2 hts gL_turn_L_tells rfl rfl rfl (by decide +kernel) ⟨Nat.le_of_ble_eq_true rfl, Nat.le_of_ble_eq_true rfl⟩) (zPc_S zB_G hP hK [0, 1, 2] rfl (zG_at hX hS (zA_pl (al := [ax, ao, aq, rx, rq]) (bl := [ax, ao, aq]) [0, 1, 2] rfl))) rfl rfl hl.1 rfl (lv_room (Nat.le_of_ble_eq_true rfl)) dL_turn_296 ⟨Nat.le_of_ble_eq_true rfl, Nat.le_of_ble_eq_true rfl⟩) hP hDD hS [0, 1, 2] rfl (fun u => by cases u <;> rfl) (fun r9 u9 H locs hw9 hP hS => ?_)
                rcases hw9 with ⟨x8, rfl, hw9⟩ | ⟨rfl, rfl, hw9⟩
                · skip
                  obtain ⟨mj9, g1, g2, g3, g4, g5⟩ := hw9
                  exact absurd g4 hm
                · skip
                  have hP : va_P (dC, dI) vwCl [(ax, .inr (2, [.ref a0, .ref a1, .ref ae, .ref aw, .int (nI k), .int (nI tn), .int mk, .int wn, .int cnt])), (ao, .inr (1, [.long (lN own), .int lo])), (aq, .inr (1, [.long (lN oth), .int lq])), (rx, .inl (cyI, 32, .inl F)), (rq, .inl (cyI, 7, .inl Qf))] H := hP
                  refine lv_bipush (v := -3) hx hb dL_turn_299 (by decide) ?_
                  refine lv_icmp_ne (tgt := 325) hx hb dL_turn_301 (by decide) (fun c9 => absurd c9 (by decide)) (fun _ => ?_)
                  refine lv_aload_n hx hb dL_turn_304 rfl (lv_at hl 4 rfl) ?_
                  refine lv_iload hx hb dL_turn_305 (lv_at hl 2 rfl) ?_
                  refine zlw_i (w1 := fun u : Option (Nat × Int32 × Int32 × Nat × Int32) => zOp u (fun u : Nat × Int32 × Int32 × Nat × Int32 => [(ax, .inr (2, [.ref a0, .ref a1, .ref ae, .ref aw, .int (nI k), .int u.2.1, .int (-1), .int u.2.2.1, .int cnt])), (ao, .inr (1, [.long (lN (zsh own u.1 (u.1 + mm))), .int lo])), (aq, .inr (1, [.long (lN u.2.2.2.1), .int u.2.2.2.2]))]) [(ax, .inr (2, [.ref a0, .ref a1, .ref ae, .ref aw, .int (nI k), .int (nI tn), .int mk, .int wn, .int cnt])), (ao, .inr (1, [.long (lN own), .int lo])), (aq, .inr (1, [.long (lN oth), .int lq]))]) (al := [ax, ao, aq]) (vx_runSX (As := [.ref ax, .int (nI pl)]) (rest := []) ⟨hx, hb, hml, hown, hts⟩ (c_L_moves l hl0 dC dI cyI cyJ tb ax a0 a1 ae aw ao aq mk wn cnt lo lq k tn own oth mm hsd hO hQ hmk hmm pl (by omega) (z_nd hDD.1 [0, 1, 2] (by decide) rfl)) (vx_cwSW 2 hts gL_turn_L_moves rfl rfl rfl (by decide +kernel) ⟨Nat.le_of_ble_eq_true rfl, Nat.le_of_ble_eq_true rfl⟩) (zPc_S zB_G hP hK [0, 1, 2] rfl (zG_at hX hS (zA_pl (al := [ax, ao, aq, rx, rq]) (bl := [ax, ao, aq]) [0, 1, 2] rfl))) rfl rfl hl.1 rfl (lv_room (Nat.le_of_ble_eq_true rfl)) dL_turn_307 ⟨Nat.le_of_ble_eq_true rfl, Nat.le_of_ble_eq_true rfl⟩) hP hDD hS [0, 1, 2] rfl (fun u => by cases u <;> rfl) (fun r9 u9 H locs hw9 hP hS => ?_)
                  rcases hw9 with ⟨x8, rfl, hw9⟩ | ⟨rfl, rfl, hw9⟩
                  · skip
                    obtain ⟨f8, t8, w8, o8, l8⟩ := x8
                    obtain ⟨g1, g2, g3, g4, g5, g6, g7, g8⟩ := hw9
                    have g1 : f8 ≤ 14 := g1
                    have g2 : nI pl = nI f8 := g2
                    obtain rfl : pl = f8 := (nI_eq (by omega) (by omega)).mp g2
                    have hcm : zcm own oth pl mm = true := g3
                    have q4 : r9 = nI (pl + mm) := g4
                    have q5 : t8 = (if zros (pl + mm) = true then nI tn else nI (1 - tn)) := g5
                    have q6 : w8 = (if zhome (zsh own pl (pl + mm)) = true then nI tn else wn) := g6
                    have q7 : o8 = (if ztk oth (pl + mm) = true then zsh oth (pl + mm) 0 else oth) := g7
                    have q8 : l8 = (if ztk oth (pl + mm) = true then lq + 1 else lq) := g8
                    clear g3 g4 g5 g6 g7 g8
                    subst q5 q6 q7 q8
                    have hP : va_P (dC, dI) vwCl [(ax, .inr (2, [.ref a0, .ref a1, .ref ae, .ref aw, .int (nI k), .int (if zros (pl + mm) = true then nI tn else nI (1 - tn)), .int (-1), .int (if zhome (zsh own pl (pl + mm)) = true then nI tn else wn), .int cnt])), (ao, .inr (1, [.long (lN (zsh own pl (pl + mm))), .int lo])), (aq, .inr (1, [.long (lN (if ztk oth (pl + mm) = true then zsh oth (pl + mm) 0 else oth)), .int (if ztk oth (pl + mm) = true then lq + 1 else lq)])), (rx, .inl (cyI, 32, .inl F)), (rq, .inl (cyI, 7, .inl Qf))] H := hP
                    refine zz_i (y := nI (pl + mm)) q4 ?_
                    refine lv_iload hx hb dL_turn_310 (lv_at hl 1 rfl) ?_
                    refine lv_if_eq (tgt := 320) hx hb dL_turn_312 (by decide) (fun c_312 => ?_) (fun c_312 => ?_)
                    · skip
                      have c_312 := bI_0.mp c_312
                      exact absurd (c_312.symm.trans hcm) (by decide)
                    · skip
                      have c_312 := bI_1.mp c_312
                      refine lv_iload hx hb dL_turn_315 (lv_at hl 0 rfl) ?_
                      refine lv_goto (tgt := 322) hx hb dL_turn_317 (by decide) ?_
                      refine lv_icmp_eq (tgt := 327) hx hb dL_turn_322 (by decide) (fun c_322 => ?_) (fun c_322 => ?_)
                      · skip
                        have c_322 : (pl + mm) = (pl + mm) := (nI_eq (a := pl + mm) (b := pl + mm) (by omega) (by omega)).mp c_322
                        refine lv_iload hx hb dL_turn_327 (lv_at hl 1 rfl) ?_
                        refine lv_if_eq (tgt := 414) hx hb dL_turn_329 (by decide) (fun c_329 => ?_) (fun c_329 => ?_)
                        · skip
                          have c_329 := bI_0.mp c_329
                          exact absurd (c_329.symm.trans hcm) (by decide)
                        · skip
                          have c_329 := bI_1.mp c_329
                          refine lv_aload_n hx hb dL_turn_332 rfl (lv_at hl 7 rfl) ?_
                          refine lv_bipush (v := 6) hx hb dL_turn_333 (by decide) ?_
                          refine lv_aload_n hx hb dL_turn_335 rfl (lv_at hl 7 rfl) ?_
                          refine lv_iconst (v := 1) hx hb dL_turn_336 (by decide) ?_
                          refine zi_iald hx hb hK hP 4 0 rfl rfl (j := 1) rfl (by omega) (by decide) dL_turn_337 ?_
                          refine zz_i (y := nI tn) hq.2.1 ?_
                          refine lv_isub hx hb dL_turn_338 ?_
                          refine zz_i (y := nI (6 - tn)) (pk_sub (a := 6) (b := tn) (by omega)) ?_
                          refine lv_dup2_11 hx hb dL_turn_339 rfl rfl ?_
                          refine zi_iald hx hb hK hP 4 0 rfl rfl (j := 6 - tn) rfl (by omega) (by decide) dL_turn_340 ?_
                          refine zz_i (y := lq) hq.2.2.2.2.2.2 ?_
                          refine lv_aload_n hx hb dL_turn_341 rfl (lv_at hl 6 rfl) ?_
                          refine lv_aload_n hx hb dL_turn_342 rfl (lv_at hl 7 rfl) ?_
                          refine lv_iconst (v := 1) hx hb dL_turn_343 (by decide) ?_
                          refine zi_iald hx hb hK hP 4 0 rfl rfl (j := 1) rfl (by omega) (by decide) dL_turn_344 ?_
                          refine zz_i (y := nI tn) hq.2.1 ?_
                          refine lv_iload hx hb dL_turn_345 (lv_at hl 0 rfl) ?_
                          refine zro_i (va_runS (As := [.ref rx, .int (nI tn), .int (nI (pl + mm))]) (rest := [.int lq, .int (nI (6 - tn)), .ref rq]) ⟨hx, hb, hml, hown, hts⟩ (c_L_takes l dC dI cyI cyJ rx F tn own oth (by omega) hr9 (pl + mm) (by omega)) (va_cwS 3 hts gL_turn_L_takes rfl rfl rfl (by decide +kernel) ⟨Nat.le_of_ble_eq_true rfl, Nat.le_of_ble_eq_true rfl⟩) (zPc_S zB_T hP hK [3] rfl (fun _ _ _ => trivial)) rfl rfl hl.1 rfl (lv_room (Nat.le_of_ble_eq_true rfl)) dL_turn_347 ⟨Nat.le_of_ble_eq_true rfl, Nat.le_of_ble_eq_true rfl⟩) hP hS (fun H locs hP hS => ?_)
                          refine lv_if_eq (tgt := 357) hx hb dL_turn_350 (by decide) (fun c_350 => ?_) (fun c_350 => ?_)
                          · skip
                            have c_350 := bI_0.mp c_350
                            refine lv_iconst (v := 0) hx hb dL_turn_357 (by decide) ?_
                            refine lv_iadd hx hb dL_turn_358 ?_
                            refine zi_iast hx hb hK hP hDD hS 4 0 rfl rfl (j := 6 - tn) rfl (by omega) (by decide) dL_turn_359 (fun H locs hP hS => ?_)
                            have hP : va_P (dC, dI) vwCl [(ax, .inr (2, [.ref a0, .ref a1, .ref ae, .ref aw, .int (nI k), .int (if zros (pl + mm) = true then nI tn else nI (1 - tn)), .int (-1), .int (if zhome (zsh own pl (pl + mm)) = true then nI tn else wn), .int cnt])), (ao, .inr (1, [.long (lN (zsh own pl (pl + mm))), .int lo])), (aq, .inr (1, [.long (lN (if ztk oth (pl + mm) = true then zsh oth (pl + mm) 0 else oth)), .int (if ztk oth (pl + mm) = true then lq + 1 else lq)])), (rx, .inl (cyI, 32, .inl F)), (rq, .inl (cyI, 7, .inl (upd Qf (6 - tn) (lq + 0))))] H := hP
                            refine lv_aload_n hx hb dL_turn_360 rfl (lv_at hl 6 rfl) ?_
                            refine lv_aload_n hx hb dL_turn_361 rfl (lv_at hl 7 rfl) ?_
                            refine lv_iconst (v := 1) hx hb dL_turn_362 (by decide) ?_
                            refine zi_iald hx hb hK hP 4 0 rfl rfl (j := 1) rfl (by omega) (by decide) dL_turn_363 ?_
                            refine zz_i (y := nI tn) (by rw [pk_un (by omega)]; exact hq.2.1) ?_
                            refine lv_iload hx hb dL_turn_364 (lv_at hl 2 rfl) ?_
                            refine lv_aload_n hx hb dL_turn_366 rfl (lv_at hl 7 rfl) ?_
                            refine lv_iconst (v := 2) hx hb dL_turn_367 (by decide) ?_
                            refine zi_iald hx hb hK hP 4 0 rfl rfl (j := 2) rfl (by omega) (by decide) dL_turn_368 ?_
                            refine zz_i (y := nI mm) (by rw [pk_un (by omega)]; exact (hq.2.2.1.trans (zmk_ne hmk hm))) ?_
                            refine zrw_v (w1 := fun u : Nat → Int32 => [(rx, .inl (cyI, 32, .inl u))]) (al := [rx]) (va_runS (As := [.ref rx, .int (nI tn), .int (nI pl), .int (nI mm)]) (rest := []) ⟨hx, hb, hml, hown, hts⟩ (c_L_shift l dC dI cyI cyJ rx F k tn own oth pl mm (by omega) hr9 hO hQ hcm (z_nd hDD.1 [3] (by decide) rfl)) (va_cwS 4 hts gL_turn_L_shift rfl rfl rfl (by decide +kernel) ⟨Nat.le_of_ble_eq_true rfl, Nat.le_of_ble_eq_true rfl⟩) (zPc_S zB_T hP hK [3] rfl (fun _ _ _ => trivial)) rfl rfl hl.1 rfl (lv_room (Nat.le_of_ble_eq_true rfl)) dL_turn_369 ⟨Nat.le_of_ble_eq_true rfl, Nat.le_of_ble_eq_true rfl⟩) hP hDD hS [3] rfl (fun _ => rfl) (fun u_369 H locs hw_369 hP hS => ?_)
                            have hP : va_P (dC, dI) vwCl [(ax, .inr (2, [.ref a0, .ref a1, .ref ae, .ref aw, .int (nI k), .int (if zros (pl + mm) = true then nI tn else nI (1 - tn)), .int (-1), .int (if zhome (zsh own pl (pl + mm)) = true then nI tn else wn), .int cnt])), (ao, .inr (1, [.long (lN (zsh own pl (pl + mm))), .int lo])), (aq, .inr (1, [.long (lN (if ztk oth (pl + mm) = true then zsh oth (pl + mm) 0 else oth)), .int (if ztk oth (pl + mm) = true then lq + 1 else lq)])), (rx, .inl (cyI, 32, .inl u_369)), (rq, .inl (cyI, 7, .inl (upd Qf (6 - tn) (lq + 0))))] H := hP
                            obtain ⟨hm0, hd0, hto⟩ := zcm_spec hcm
                            have hO2 : zok k (zsh own pl (pl + mm)) := zok_sh hO hd0 (by omega) hto (by omega)
                            have hg6 := dg_lt (zsh own pl (pl + mm)) 15
                            refine lv_aload_n hx hb dL_turn_372 rfl (lv_at hl 7 rfl) ?_
                            refine lv_iconst (v := 3) hx hb dL_turn_373 (by decide) ?_
                            refine lv_aload_n hx hb dL_turn_374 rfl (lv_at hl 6 rfl) ?_
                            refine lv_bipush (v := 16) hx hb dL_turn_375 (by decide) ?_
                            refine lv_aload_n hx hb dL_turn_377 rfl (lv_at hl 7 rfl) ?_
                            refine lv_iconst (v := 1) hx hb dL_turn_378 (by decide) ?_
                            refine zi_iald hx hb hK hP 4 0 rfl rfl (j := 1) rfl (by omega) (by decide) dL_turn_379 ?_
                            refine zz_i (y := nI tn) (by rw [pk_un (by omega)]; exact hq.2.1) ?_
                            refine lv_imul hx hb dL_turn_380 ?_
                            refine zz_i (y := nI (16 * tn)) (pk_mul 16 tn) ?_
                            refine lv_bipush (v := 15) hx hb dL_turn_381 (by decide) ?_
                            refine lv_iadd hx hb dL_turn_383 ?_
                            refine zz_i (y := nI (16 * tn + 15)) (nI_add (16 * tn) 15) ?_
                            refine zi_iald hx hb hK hP 3 0 rfl rfl (j := 16 * tn + 15) rfl (by omega) (by decide) dL_turn_384 ?_
                            refine zz_i (y := nI (dg (zsh own pl (pl + mm)) 15)) (zr1 hw_369 (by omega)) ?_
                            refine lv_aload_n hx hb dL_turn_385 rfl (lv_at hl 7 rfl) ?_
                            refine lv_iconst (v := 0) hx hb dL_turn_386 (by decide) ?_
                            refine zi_iald hx hb hK hP 4 0 rfl rfl (j := 0) rfl (by omega) (by decide) dL_turn_387 ?_
                            refine zz_i (y := nI k) (by rw [pk_un (by omega)]; exact hq.1) ?_
                            refine lv_icmp_ne (tgt := 397) hx hb dL_turn_388 (by decide) (fun c_388 => ?_) (fun c_388 => ?_)
                            · skip
                              have c_388 : ¬ (dg (zsh own pl (pl + mm)) 15) = k := fun h9 => c_388 ((nI_eq (a := dg (zsh own pl (pl + mm)) 15) (b := k) (by omega) (by omega)).mpr h9)
                              refine lv_iconst (v := -1) hx hb dL_turn_397 (by decide) ?_
                              refine zi_iast hx hb hK hP hDD hS 4 0 rfl rfl (j := 3) rfl (by omega) (by decide) dL_turn_398 (fun H locs hP hS => ?_)
                              have hP : va_P (dC, dI) vwCl [(ax, .inr (2, [.ref a0, .ref a1, .ref ae, .ref aw, .int (nI k), .int (if zros (pl + mm) = true then nI tn else nI (1 - tn)), .int (-1), .int (if zhome (zsh own pl (pl + mm)) = true then nI tn else wn), .int cnt])), (ao, .inr (1, [.long (lN (zsh own pl (pl + mm))), .int lo])), (aq, .inr (1, [.long (lN (if ztk oth (pl + mm) = true then zsh oth (pl + mm) 0 else oth)), .int (if ztk oth (pl + mm) = true then lq + 1 else lq)])), (rx, .inl (cyI, 32, .inl u_369)), (rq, .inl (cyI, 7, .inl (upd (upd Qf (6 - tn) (lq + 0)) 3 (-1))))] H := hP
                              refine lv_aload_n hx hb dL_turn_399 rfl (lv_at hl 7 rfl) ?_
                              refine lv_iconst (v := 1) hx hb dL_turn_400 (by decide) ?_
                              refine lv_aload_n hx hb dL_turn_401 rfl (lv_at hl 7 rfl) ?_
                              refine lv_iconst (v := 1) hx hb dL_turn_402 (by decide) ?_
                              refine zi_iald hx hb hK hP 4 0 rfl rfl (j := 1) rfl (by omega) (by decide) dL_turn_403 ?_
                              refine zz_i (y := nI tn) (by rw [pk_un (by omega), pk_un (by omega)]; exact hq.2.1) ?_
                              refine lv_iload hx hb dL_turn_404 (lv_at hl 0 rfl) ?_
                              refine zro_i (va_runS (As := [.int (nI tn), .int (nI (pl + mm))]) (rest := [.int 1, .ref rq]) ⟨hx, hb, hml, hown, hts⟩ (c_L_after l tn (pl + mm) (by omega) (by omega)) (va_cwS 2 hts gL_turn_L_after rfl rfl rfl (by decide +kernel) ⟨Nat.le_of_ble_eq_true rfl, Nat.le_of_ble_eq_true rfl⟩) zPu rfl rfl hl.1 rfl (lv_room (Nat.le_of_ble_eq_true rfl)) dL_turn_406 ⟨Nat.le_of_ble_eq_true rfl, Nat.le_of_ble_eq_true rfl⟩) hP hS (fun H locs hP hS => ?_)
                              refine zi_iast hx hb hK hP hDD hS 4 0 rfl rfl (j := 1) rfl (by omega) (by decide) dL_turn_409 (fun H locs hP hS => ?_)
                              have hP : va_P (dC, dI) vwCl [(ax, .inr (2, [.ref a0, .ref a1, .ref ae, .ref aw, .int (nI k), .int (if zros (pl + mm) = true then nI tn else nI (1 - tn)), .int (-1), .int (if zhome (zsh own pl (pl + mm)) = true then nI tn else wn), .int cnt])), (ao, .inr (1, [.long (lN (zsh own pl (pl + mm))), .int lo])), (aq, .inr (1, [.long (lN (if ztk oth (pl + mm) = true then zsh oth (pl + mm) 0 else oth)), .int (if ztk oth (pl + mm) = true then lq + 1 else lq)])), (rx, .inl (cyI, 32, .inl u_369)), (rq, .inl (cyI, 7, .inl (upd (upd (upd Qf (6 - tn) (lq + 0)) 3 (-1)) 1 (nI (if zros (pl + mm) = true then tn else 1 - tn)))))] H := hP
                              refine lv_aload_n hx hb dL_turn_410 rfl (lv_at hl 7 rfl) ?_
                              refine lv_iconst (v := 2) hx hb dL_turn_411 (by decide) ?_
                              refine lv_iconst (v := -1) hx hb dL_turn_412 (by decide) ?_
                              refine zi_iast hx hb hK hP hDD hS 4 0 rfl rfl (j := 2) rfl (by omega) (by decide) dL_turn_413 (fun H locs hP hS => ?_)
                              have hP : va_P (dC, dI) vwCl [(ax, .inr (2, [.ref a0, .ref a1, .ref ae, .ref aw, .int (nI k), .int (if zros (pl + mm) = true then nI tn else nI (1 - tn)), .int (-1), .int (if zhome (zsh own pl (pl + mm)) = true then nI tn else wn), .int cnt])), (ao, .inr (1, [.long (lN (zsh own pl (pl + mm))), .int lo])), (aq, .inr (1, [.long (lN (if ztk oth (pl + mm) = true then zsh oth (pl + mm) 0 else oth)), .int (if ztk oth (pl + mm) = true then lq + 1 else lq)])), (rx, .inl (cyI, 32, .inl u_369)), (rq, .inl (cyI, 7, .inl (upd (upd (upd (upd Qf (6 - tn) (lq + 0)) 3 (-1)) 1 (nI (if zros (pl + mm) = true then tn else 1 - tn))) 2 (-1))))] H := hP
                              refine lv_iconst (v := 1) hx hb dL_turn_414 (by decide) ?_
                              subst hQe
                              refine W.widen (k := 4) (n := 24) (Nat.le_of_ble_eq_true rfl) (Nat.le_of_ble_eq_true rfl) ?_
                              exact W.zret (v := 1) hx hb hr rfl (fun t ht hW => ⟨⟨_, (if zros (pl + mm) = true then nI tn else nI (1 - tn), -1, if zhome (zsh own pl (pl + mm)) = true then nI tn else wn, cnt, zsh own pl (pl + mm), lo, if ztk oth (pl + mm) = true then zsh oth (pl + mm) 0 else oth, if ztk oth (pl + mm) = true then lq + 1 else lq, u_369, (upd (upd (upd (upd Qf (6 - tn) (lq + 0)) 3 (-1)) 1 (nI (if zros (pl + mm) = true then tn else 1 - tn))) 2 (-1))), rfl, ⟨rfl, zmoved htn hO hQ hg hcm (hmw.resolve_left hm) hw_369 hq (by rw [if_neg (by rw [c_350]; decide)]; exact Int32.add_zero lq) (by rw [if_neg (by rw [zhome_n hO2 c_388]; decide)]; exact (hmw.resolve_left hm).symm)⟩, zh ht hP⟩, hS.F ht⟩) hS.2.2 dL_turn_415
                            · skip
                              have c_388 : (dg (zsh own pl (pl + mm)) 15) = k := (nI_eq (a := dg (zsh own pl (pl + mm)) 15) (b := k) (by omega) (by omega)).mp c_388
                              refine lv_aload_n hx hb dL_turn_391 rfl (lv_at hl 7 rfl) ?_
                              refine lv_iconst (v := 1) hx hb dL_turn_392 (by decide) ?_
                              refine zi_iald hx hb hK hP 4 0 rfl rfl (j := 1) rfl (by omega) (by decide) dL_turn_393 ?_
                              refine zz_i (y := nI tn) (by rw [pk_un (by omega)]; exact hq.2.1) ?_
                              refine lv_goto (tgt := 398) hx hb dL_turn_394 (by decide) ?_
                              refine zi_iast hx hb hK hP hDD hS 4 0 rfl rfl (j := 3) rfl (by omega) (by decide) dL_turn_398 (fun H locs hP hS => ?_)
                              have hP : va_P (dC, dI) vwCl [(ax, .inr (2, [.ref a0, .ref a1, .ref ae, .ref aw, .int (nI k), .int (if zros (pl + mm) = true then nI tn else nI (1 - tn)), .int (-1), .int (if zhome (zsh own pl (pl + mm)) = true then nI tn else wn), .int cnt])), (ao, .inr (1, [.long (lN (zsh own pl (pl + mm))), .int lo])), (aq, .inr (1, [.long (lN (if ztk oth (pl + mm) = true then zsh oth (pl + mm) 0 else oth)), .int (if ztk oth (pl + mm) = true then lq + 1 else lq)])), (rx, .inl (cyI, 32, .inl u_369)), (rq, .inl (cyI, 7, .inl (upd (upd Qf (6 - tn) (lq + 0)) 3 (nI tn))))] H := hP
                              refine lv_aload_n hx hb dL_turn_399 rfl (lv_at hl 7 rfl) ?_
                              refine lv_iconst (v := 1) hx hb dL_turn_400 (by decide) ?_
                              refine lv_aload_n hx hb dL_turn_401 rfl (lv_at hl 7 rfl) ?_
                              refine lv_iconst (v := 1) hx hb dL_turn_402 (by decide) ?_
                              refine zi_iald hx hb hK hP 4 0 rfl rfl (j := 1) rfl (by omega) (by decide) dL_turn_403 ?_
                              refine zz_i (y := nI tn) (by rw [pk_un (by omega), pk_un (by omega)]; exact hq.2.1) ?_
                              refine lv_iload hx hb dL_turn_404 (lv_at hl 0 rfl) ?_
                              refine zro_i (va_runS (As := [.int (nI tn), .int (nI (pl + mm))]) (rest := [.int 1, .ref rq]) ⟨hx, hb, hml, hown, hts⟩ (c_L_after l tn (pl + mm) (by omega) (by omega)) (va_cwS 2 hts gL_turn_L_after rfl rfl rfl (by decide +kernel) ⟨Nat.le_of_ble_eq_true rfl, Nat.le_of_ble_eq_true rfl⟩) zPu rfl rfl hl.1 rfl (lv_room (Nat.le_of_ble_eq_true rfl)) dL_turn_406 ⟨Nat.le_of_ble_eq_true rfl, Nat.le_of_ble_eq_true rfl⟩) hP hS (fun H locs hP hS => ?_)
                              refine zi_iast hx hb hK hP hDD hS 4 0 rfl rfl (j := 1) rfl (by omega) (by decide) dL_turn_409 (fun H locs hP hS => ?_)
                              have hP : va_P (dC, dI) vwCl [(ax, .inr (2, [.ref a0, .ref a1, .ref ae, .ref aw, .int (nI k), .int (if zros (pl + mm) = true then nI tn else nI (1 - tn)), .int (-1), .int (if zhome (zsh own pl (pl + mm)) = true then nI tn else wn), .int cnt])), (ao, .inr (1, [.long (lN (zsh own pl (pl + mm))), .int lo])), (aq, .inr (1, [.long (lN (if ztk oth (pl + mm) = true then zsh oth (pl + mm) 0 else oth)), .int (if ztk oth (pl + mm) = true then lq + 1 else lq)])), (rx, .inl (cyI, 32, .inl u_369)), (rq, .inl (cyI, 7, .inl (upd (upd (upd Qf (6 - tn) (lq + 0)) 3 (nI tn)) 1 (nI (if zros (pl + mm) = true then tn else 1 - tn)))))] H := hP
                              refine lv_aload_n hx hb dL_turn_410 rfl (lv_at hl 7 rfl) ?_
                              refine lv_iconst (v := 2) hx hb dL_turn_411 (by decide) ?_
                              refine lv_iconst (v := -1) hx hb dL_turn_412 (by decide) ?_
                              refine zi_iast hx hb hK hP hDD hS 4 0 rfl rfl (j := 2) rfl (by omega) (by decide) dL_turn_413 (fun H locs hP hS => ?_)
                              have hP : va_P (dC, dI) vwCl [(ax, .inr (2, [.ref a0, .ref a1, .ref ae, .ref aw, .int (nI k), .int (if zros (pl + mm) = true then nI tn else nI (1 - tn)), .int (-1), .int (if zhome (zsh own pl (pl + mm)) = true then nI tn else wn), .int cnt])), (ao, .inr (1, [.long (lN (zsh own pl (pl + mm))), .int lo])), (aq, .inr (1, [.long (lN (if ztk oth (pl + mm) = true then zsh oth (pl + mm) 0 else oth)), .int (if ztk oth (pl + mm) = true then lq + 1 else lq)])), (rx, .inl (cyI, 32, .inl u_369)), (rq, .inl (cyI, 7, .inl (upd (upd (upd (upd Qf (6 - tn) (lq + 0)) 3 (nI tn)) 1 (nI (if zros (pl + mm) = true then tn else 1 - tn))) 2 (-1))))] H := hP
                              refine lv_iconst (v := 1) hx hb dL_turn_414 (by decide) ?_
                              subst hQe
                              refine W.widen (k := 4) (n := 24) (Nat.le_of_ble_eq_true rfl) (Nat.le_of_ble_eq_true rfl) ?_
                              exact W.zret (v := 1) hx hb hr rfl (fun t ht hW => ⟨⟨_, (if zros (pl + mm) = true then nI tn else nI (1 - tn), -1, if zhome (zsh own pl (pl + mm)) = true then nI tn else wn, cnt, zsh own pl (pl + mm), lo, if ztk oth (pl + mm) = true then zsh oth (pl + mm) 0 else oth, if ztk oth (pl + mm) = true then lq + 1 else lq, u_369, (upd (upd (upd (upd Qf (6 - tn) (lq + 0)) 3 (nI tn)) 1 (nI (if zros (pl + mm) = true then tn else 1 - tn))) 2 (-1))), rfl, ⟨rfl, zmoved htn hO hQ hg hcm (hmw.resolve_left hm) hw_369 hq (by rw [if_neg (by rw [c_350]; decide)]; exact Int32.add_zero lq) (by rw [if_pos ((zhome_iff hO2).mpr c_388)])⟩, zh ht hP⟩, hS.F ht⟩) hS.2.2 dL_turn_415
                          · skip
                            have c_350 := bI_1.mp c_350
                            refine lv_iconst (v := 1) hx hb dL_turn_353 (by decide) ?_
                            refine lv_goto (tgt := 358) hx hb dL_turn_354 (by decide) ?_
                            refine lv_iadd hx hb dL_turn_358 ?_
                            refine zi_iast hx hb hK hP hDD hS 4 0 rfl rfl (j := 6 - tn) rfl (by omega) (by decide) dL_turn_359 (fun H locs hP hS => ?_)
                            have hP : va_P (dC, dI) vwCl [(ax, .inr (2, [.ref a0, .ref a1, .ref ae, .ref aw, .int (nI k), .int (if zros (pl + mm) = true then nI tn else nI (1 - tn)), .int (-1), .int (if zhome (zsh own pl (pl + mm)) = true then nI tn else wn), .int cnt])), (ao, .inr (1, [.long (lN (zsh own pl (pl + mm))), .int lo])), (aq, .inr (1, [.long (lN (if ztk oth (pl + mm) = true then zsh oth (pl + mm) 0 else oth)), .int (if ztk oth (pl + mm) = true then lq + 1 else lq)])), (rx, .inl (cyI, 32, .inl F)), (rq, .inl (cyI, 7, .inl (upd Qf (6 - tn) (lq + 1))))] H := hP
                            refine lv_aload_n hx hb dL_turn_360 rfl (lv_at hl 6 rfl) ?_
                            refine lv_aload_n hx hb dL_turn_361 rfl (lv_at hl 7 rfl) ?_
                            refine lv_iconst (v := 1) hx hb dL_turn_362 (by decide) ?_
                            refine zi_iald hx hb hK hP 4 0 rfl rfl (j := 1) rfl (by omega) (by decide) dL_turn_363 ?_
                            refine zz_i (y := nI tn) (by rw [pk_un (by omega)]; exact hq.2.1) ?_
                            refine lv_iload hx hb dL_turn_364 (lv_at hl 2 rfl) ?_
                            refine lv_aload_n hx hb dL_turn_366 rfl (lv_at hl 7 rfl) ?_
                            refine lv_iconst (v := 2) hx hb dL_turn_367 (by decide) ?_
                            refine zi_iald hx hb hK hP 4 0 rfl rfl (j := 2) rfl (by omega) (by decide) dL_turn_368 ?_
                            refine zz_i (y := nI mm) (by rw [pk_un (by omega)]; exact (hq.2.2.1.trans (zmk_ne hmk hm))) ?_
                            refine zrw_v (w1 := fun u : Nat → Int32 => [(rx, .inl (cyI, 32, .inl u))]) (al := [rx]) (va_runS (As := [.ref rx, .int (nI tn), .int (nI pl), .int (nI mm)]) (rest := []) ⟨hx, hb, hml, hown, hts⟩ (c_L_shift l dC dI cyI cyJ rx F k tn own oth pl mm (by omega) hr9 hO hQ hcm (z_nd hDD.1 [3] (by decide) rfl)) (va_cwS 4 hts gL_turn_L_shift rfl rfl rfl (by decide +kernel) ⟨Nat.le_of_ble_eq_true rfl, Nat.le_of_ble_eq_true rfl⟩) (zPc_S zB_T hP hK [3] rfl (fun _ _ _ => trivial)) rfl rfl hl.1 rfl (lv_room (Nat.le_of_ble_eq_true rfl)) dL_turn_369 ⟨Nat.le_of_ble_eq_true rfl, Nat.le_of_ble_eq_true rfl⟩) hP hDD hS [3] rfl (fun _ => rfl) (fun u_369 H locs hw_369 hP hS => ?_)
                            have hP : va_P (dC, dI) vwCl [(ax, .inr (2, [.ref a0, .ref a1, .ref ae, .ref aw, .int (nI k), .int (if zros (pl + mm) = true then nI tn else nI (1 - tn)), .int (-1), .int (if zhome (zsh own pl (pl + mm)) = true then nI tn else wn), .int cnt])), (ao, .inr (1, [.long (lN (zsh own pl (pl + mm))), .int lo])), (aq, .inr (1, [.long (lN (if ztk oth (pl + mm) = true then zsh oth (pl + mm) 0 else oth)), .int (if ztk oth (pl + mm) = true then lq + 1 else lq)])), (rx, .inl (cyI, 32, .inl u_369)), (rq, .inl (cyI, 7, .inl (upd Qf (6 - tn) (lq + 1))))] H := hP
                            obtain ⟨hm0, hd0, hto⟩ := zcm_spec hcm
                            have hO2 : zok k (zsh own pl (pl + mm)) := zok_sh hO hd0 (by omega) hto (by omega)
                            have hg6 := dg_lt (zsh own pl (pl + mm)) 15
                            refine lv_aload_n hx hb dL_turn_372 rfl (lv_at hl 7 rfl) ?_
                            refine lv_iconst (v := 3) hx hb dL_turn_373 (by decide) ?_
                            refine lv_aload_n hx hb dL_turn_374 rfl (lv_at hl 6 rfl) ?_
                            refine lv_bipush (v := 16) hx hb dL_turn_375 (by decide) ?_
                            refine lv_aload_n hx hb dL_turn_377 rfl (lv_at hl 7 rfl) ?_
                            refine lv_iconst (v := 1) hx hb dL_turn_378 (by decide) ?_
                            refine zi_iald hx hb hK hP 4 0 rfl rfl (j := 1) rfl (by omega) (by decide) dL_turn_379 ?_
                            refine zz_i (y := nI tn) (by rw [pk_un (by omega)]; exact hq.2.1) ?_
                            refine lv_imul hx hb dL_turn_380 ?_
                            refine zz_i (y := nI (16 * tn)) (pk_mul 16 tn) ?_
                            refine lv_bipush (v := 15) hx hb dL_turn_381 (by decide) ?_
                            refine lv_iadd hx hb dL_turn_383 ?_
                            refine zz_i (y := nI (16 * tn + 15)) (nI_add (16 * tn) 15) ?_
                            refine zi_iald hx hb hK hP 3 0 rfl rfl (j := 16 * tn + 15) rfl (by omega) (by decide) dL_turn_384 ?_
                            refine zz_i (y := nI (dg (zsh own pl (pl + mm)) 15)) (zr1 hw_369 (by omega)) ?_
                            refine lv_aload_n hx hb dL_turn_385 rfl (lv_at hl 7 rfl) ?_
                            refine lv_iconst (v := 0) hx hb dL_turn_386 (by decide) ?_
                            refine zi_iald hx hb hK hP 4 0 rfl rfl (j := 0) rfl (by omega) (by decide) dL_turn_387 ?_
                            refine zz_i (y := nI k) (by rw [pk_un (by omega)]; exact hq.1) ?_
                            refine lv_icmp_ne (tgt := 397) hx hb dL_turn_388 (by decide) (fun c_388 => ?_) (fun c_388 => ?_)
                            · skip
                              have c_388 : ¬ (dg (zsh own pl (pl + mm)) 15) = k := fun h9 => c_388 ((nI_eq (a := dg (zsh own pl (pl + mm)) 15) (b := k) (by omega) (by omega)).mpr h9)
                              refine lv_iconst (v := -1) hx hb dL_turn_397 (by decide) ?_
                              refine zi_iast hx hb hK hP hDD hS 4 0 rfl rfl (j := 3) rfl (by omega) (by decide) dL_turn_398 (fun H locs hP hS => ?_)
                              have hP : va_P (dC, dI) vwCl [(ax, .inr (2, [.ref a0, .ref a1, .ref ae, .ref aw, .int (nI k), .int (if zros (pl + mm) = true then nI tn else nI (1 - tn)), .int (-1), .int (if zhome (zsh own pl (pl + mm)) = true then nI tn else wn), .int cnt])), (ao, .inr (1, [.long (lN (zsh own pl (pl + mm))), .int lo])), (aq, .inr (1, [.long (lN (if ztk oth (pl + mm) = true then zsh oth (pl + mm) 0 else oth)), .int (if ztk oth (pl + mm) = true then lq + 1 else lq)])), (rx, .inl (cyI, 32, .inl u_369)), (rq, .inl (cyI, 7, .inl (upd (upd Qf (6 - tn) (lq + 1)) 3 (-1))))] H := hP
                              refine lv_aload_n hx hb dL_turn_399 rfl (lv_at hl 7 rfl) ?_
                              refine lv_iconst (v := 1) hx hb dL_turn_400 (by decide) ?_
                              refine lv_aload_n hx hb dL_turn_401 rfl (lv_at hl 7 rfl) ?_
                              refine lv_iconst (v := 1) hx hb dL_turn_402 (by decide) ?_
                              refine zi_iald hx hb hK hP 4 0 rfl rfl (j := 1) rfl (by omega) (by decide) dL_turn_403 ?_
                              refine zz_i (y := nI tn) (by rw [pk_un (by omega), pk_un (by omega)]; exact hq.2.1) ?_
                              refine lv_iload hx hb dL_turn_404 (lv_at hl 0 rfl) ?_
                              refine zro_i (va_runS (As := [.int (nI tn), .int (nI (pl + mm))]) (rest := [.int 1, .ref rq]) ⟨hx, hb, hml, hown, hts⟩ (c_L_after l tn (pl + mm) (by omega) (by omega)) (va_cwS 2 hts gL_turn_L_after rfl rfl rfl (by decide +kernel) ⟨Nat.le_of_ble_eq_true rfl, Nat.le_of_ble_eq_true rfl⟩) zPu rfl rfl hl.1 rfl (lv_room (Nat.le_of_ble_eq_true rfl)) dL_turn_406 ⟨Nat.le_of_ble_eq_true rfl, Nat.le_of_ble_eq_true rfl⟩) hP hS (fun H locs hP hS => ?_)
                              refine zi_iast hx hb hK hP hDD hS 4 0 rfl rfl (j := 1) rfl (by omega) (by decide) dL_turn_409 (fun H locs hP hS => ?_)
                              have hP : va_P (dC, dI) vwCl [(ax, .inr (2, [.ref a0, .ref a1, .ref ae, .ref aw, .int (nI k), .int (if zros (pl + mm) = true then nI tn else nI (1 - tn)), .int (-1), .int (if zhome (zsh own pl (pl + mm)) = true then nI tn else wn), .int cnt])), (ao, .inr (1, [.long (lN (zsh own pl (pl + mm))), .int lo])), (aq, .inr (1, [.long (lN (if ztk oth (pl + mm) = true then zsh oth (pl + mm) 0 else oth)), .int (if ztk oth (pl + mm) = true then lq + 1 else lq)])), (rx, .inl (cyI, 32, .inl u_369)), (rq, .inl (cyI, 7, .inl (upd (upd (upd Qf (6 - tn) (lq + 1)) 3 (-1)) 1 (nI (if zros (pl + mm) = true then tn else 1 - tn)))))] H := hP
                              refine lv_aload_n hx hb dL_turn_410 rfl (lv_at hl 7 rfl) ?_
                              refine lv_iconst (v := 2) hx hb dL_turn_411 (by decide) ?_
                              refine lv_iconst (v := -1) hx hb dL_turn_412 (by decide) ?_
                              refine zi_iast hx hb hK hP hDD hS 4 0 rfl rfl (j := 2) rfl (by omega) (by decide) dL_turn_413 (fun H locs hP hS => ?_)
                              have hP : va_P (dC, dI) vwCl [(ax, .inr (2, [.ref a0, .ref a1, .ref ae, .ref aw, .int (nI k), .int (if zros (pl + mm) = true then nI tn else nI (1 - tn)), .int (-1), .int (if zhome (zsh own pl (pl + mm)) = true then nI tn else wn), .int cnt])), (ao, .inr (1, [.long (lN (zsh own pl (pl + mm))), .int lo])), (aq, .inr (1, [.long (lN (if ztk oth (pl + mm) = true then zsh oth (pl + mm) 0 else oth)), .int (if ztk oth (pl + mm) = true then lq + 1 else lq)])), (rx, .inl (cyI, 32, .inl u_369)), (rq, .inl (cyI, 7, .inl (upd (upd (upd (upd Qf (6 - tn) (lq + 1)) 3 (-1)) 1 (nI (if zros (pl + mm) = true then tn else 1 - tn))) 2 (-1))))] H := hP
                              refine lv_iconst (v := 1) hx hb dL_turn_414 (by decide) ?_
                              subst hQe
                              refine W.widen (k := 4) (n := 24) (Nat.le_of_ble_eq_true rfl) (Nat.le_of_ble_eq_true rfl) ?_
                              exact W.zret (v := 1) hx hb hr rfl (fun t ht hW => ⟨⟨_, (if zros (pl + mm) = true then nI tn else nI (1 - tn), -1, if zhome (zsh own pl (pl + mm)) = true then nI tn else wn, cnt, zsh own pl (pl + mm), lo, if ztk oth (pl + mm) = true then zsh oth (pl + mm) 0 else oth, if ztk oth (pl + mm) = true then lq + 1 else lq, u_369, (upd (upd (upd (upd Qf (6 - tn) (lq + 1)) 3 (-1)) 1 (nI (if zros (pl + mm) = true then tn else 1 - tn))) 2 (-1))), rfl, ⟨rfl, zmoved htn hO hQ hg hcm (hmw.resolve_left hm) hw_369 hq (by rw [if_pos c_350]) (by rw [if_neg (by rw [zhome_n hO2 c_388]; decide)]; exact (hmw.resolve_left hm).symm)⟩, zh ht hP⟩, hS.F ht⟩) hS.2.2 dL_turn_415
                            · skip
                              have c_388 : (dg (zsh own pl (pl + mm)) 15) = k := (nI_eq (a := dg (zsh own pl (pl + mm)) 15) (b := k) (by omega) (by omega)).mp c_388
                              refine lv_aload_n hx hb dL_turn_391 rfl (lv_at hl 7 rfl) ?_
                              refine lv_iconst (v := 1) hx hb dL_turn_392 (by decide) ?_
                              refine zi_iald hx hb hK hP 4 0 rfl rfl (j := 1) rfl (by omega) (by decide) dL_turn_393 ?_
                              refine zz_i (y := nI tn) (by rw [pk_un (by omega)]; exact hq.2.1) ?_
                              refine lv_goto (tgt := 398) hx hb dL_turn_394 (by decide) ?_
                              refine zi_iast hx hb hK hP hDD hS 4 0 rfl rfl (j := 3) rfl (by omega) (by decide) dL_turn_398 (fun H locs hP hS => ?_)
                              have hP : va_P (dC, dI) vwCl [(ax, .inr (2, [.ref a0, .ref a1, .ref ae, .ref aw, .int (nI k), .int (if zros (pl + mm) = true then nI tn else nI (1 - tn)), .int (-1), .int (if zhome (zsh own pl (pl + mm)) = true then nI tn else wn), .int cnt])), (ao, .inr (1, [.long (lN (zsh own pl (pl + mm))), .int lo])), (aq, .inr (1, [.long (lN (if ztk oth (pl + mm) = true then zsh oth (pl + mm) 0 else oth)), .int (if ztk oth (pl + mm) = true then lq + 1 else lq)])), (rx, .inl (cyI, 32, .inl u_369)), (rq, .inl (cyI, 7, .inl (upd (upd Qf (6 - tn) (lq + 1)) 3 (nI tn))))] H := hP
                              refine lv_aload_n hx hb dL_turn_399 rfl (lv_at hl 7 rfl) ?_
                              refine lv_iconst (v := 1) hx hb dL_turn_400 (by decide) ?_
                              refine lv_aload_n hx hb dL_turn_401 rfl (lv_at hl 7 rfl) ?_
                              refine lv_iconst (v := 1) hx hb dL_turn_402 (by decide) ?_
                              refine zi_iald hx hb hK hP 4 0 rfl rfl (j := 1) rfl (by omega) (by decide) dL_turn_403 ?_
                              refine zz_i (y := nI tn) (by rw [pk_un (by omega), pk_un (by omega)]; exact hq.2.1) ?_
                              refine lv_iload hx hb dL_turn_404 (lv_at hl 0 rfl) ?_
                              refine zro_i (va_runS (As := [.int (nI tn), .int (nI (pl + mm))]) (rest := [.int 1, .ref rq]) ⟨hx, hb, hml, hown, hts⟩ (c_L_after l tn (pl + mm) (by omega) (by omega)) (va_cwS 2 hts gL_turn_L_after rfl rfl rfl (by decide +kernel) ⟨Nat.le_of_ble_eq_true rfl, Nat.le_of_ble_eq_true rfl⟩) zPu rfl rfl hl.1 rfl (lv_room (Nat.le_of_ble_eq_true rfl)) dL_turn_406 ⟨Nat.le_of_ble_eq_true rfl, Nat.le_of_ble_eq_true rfl⟩) hP hS (fun H locs hP hS => ?_)
                              refine zi_iast hx hb hK hP hDD hS 4 0 rfl rfl (j := 1) rfl (by omega) (by decide) dL_turn_409 (fun H locs hP hS => ?_)
                              have hP : va_P (dC, dI) vwCl [(ax, .inr (2, [.ref a0, .ref a1, .ref ae, .ref aw, .int (nI k), .int (if zros (pl + mm) = true then nI tn else nI (1 - tn)), .int (-1), .int (if zhome (zsh own pl (pl + mm)) = true then nI tn else wn), .int cnt])), (ao, .inr (1, [.long (lN (zsh own pl (pl + mm))), .int lo])), (aq, .inr (1, [.long (lN (if ztk oth (pl + mm) = true then zsh oth (pl + mm) 0 else oth)), .int (if ztk oth (pl + mm) = true then lq + 1 else lq)])), (rx, .inl (cyI, 32, .inl u_369)), (rq, .inl (cyI, 7, .inl (upd (upd (upd Qf (6 - tn) (lq + 1)) 3 (nI tn)) 1 (nI (if zros (pl + mm) = true then tn else 1 - tn)))))] H := hP
                              refine lv_aload_n hx hb dL_turn_410 rfl (lv_at hl 7 rfl) ?_
                              refine lv_iconst (v := 2) hx hb dL_turn_411 (by decide) ?_
                              refine lv_iconst (v := -1) hx hb dL_turn_412 (by decide) ?_
                              refine zi_iast hx hb hK hP hDD hS 4 0 rfl rfl (j := 2) rfl (by omega) (by decide) dL_turn_413 (fun H locs hP hS => ?_)
                              have hP : va_P (dC, dI) vwCl [(ax, .inr (2, [.ref a0, .ref a1, .ref ae, .ref aw, .int (nI k), .int (if zros (pl + mm) = true then nI tn else nI (1 - tn)), .int (-1), .int (if zhome (zsh own pl (pl + mm)) = true then nI tn else wn), .int cnt])), (ao, .inr (1, [.long (lN (zsh own pl (pl + mm))), .int lo])), (aq, .inr (1, [.long (lN (if ztk oth (pl + mm) = true then zsh oth (pl + mm) 0 else oth)), .int (if ztk oth (pl + mm) = true then lq + 1 else lq)])), (rx, .inl (cyI, 32, .inl u_369)), (rq, .inl (cyI, 7, .inl (upd (upd (upd (upd Qf (6 - tn) (lq + 1)) 3 (nI tn)) 1 (nI (if zros (pl + mm) = true then tn else 1 - tn))) 2 (-1))))] H := hP
                              refine lv_iconst (v := 1) hx hb dL_turn_414 (by decide) ?_
                              subst hQe
                              refine W.widen (k := 4) (n := 24) (Nat.le_of_ble_eq_true rfl) (Nat.le_of_ble_eq_true rfl) ?_
                              exact W.zret (v := 1) hx hb hr rfl (fun t ht hW => ⟨⟨_, (if zros (pl + mm) = true then nI tn else nI (1 - tn), -1, if zhome (zsh own pl (pl + mm)) = true then nI tn else wn, cnt, zsh own pl (pl + mm), lo, if ztk oth (pl + mm) = true then zsh oth (pl + mm) 0 else oth, if ztk oth (pl + mm) = true then lq + 1 else lq, u_369, (upd (upd (upd (upd Qf (6 - tn) (lq + 1)) 3 (nI tn)) 1 (nI (if zros (pl + mm) = true then tn else 1 - tn))) 2 (-1))), rfl, ⟨rfl, zmoved htn hO hQ hg hcm (hmw.resolve_left hm) hw_369 hq (by rw [if_pos c_350]) (by rw [if_pos ((zhome_iff hO2).mpr c_388)])⟩, zh ht hP⟩, hS.F ht⟩) hS.2.2 dL_turn_415
                      · skip
                        have c_322 : ¬ (pl + mm) = (pl + mm) := fun h9 => c_322 ((nI_eq (a := pl + mm) (b := pl + mm) (by omega) (by omega)).mpr h9)
                        exact absurd rfl c_322
                  · skip
                    have hP : va_P (dC, dI) vwCl [(ax, .inr (2, [.ref a0, .ref a1, .ref ae, .ref aw, .int (nI k), .int (nI tn), .int mk, .int wn, .int cnt])), (ao, .inr (1, [.long (lN own), .int lo])), (aq, .inr (1, [.long (lN oth), .int lq])), (rx, .inl (cyI, 32, .inl F)), (rq, .inl (cyI, 7, .inl Qf))] H := hP
                    refine lv_iload hx hb dL_turn_310 (lv_at hl 1 rfl) ?_
                    refine lv_if_eq (tgt := 320) hx hb dL_turn_312 (by decide) (fun c_312 => ?_) (fun c_312 => ?_)
                    · skip
                      have c_312 := bI_0.mp c_312
                      refine lv_bipush (v := -3) hx hb dL_turn_320 (by decide) ?_
                      refine lv_icmp_eq (tgt := 327) hx hb dL_turn_322 (by decide) (fun _ => ?_) (fun c9 => absurd c9 (by decide))
                      refine lv_iload hx hb dL_turn_327 (lv_at hl 1 rfl) ?_
                      refine lv_if_eq (tgt := 414) hx hb dL_turn_329 (by decide) (fun c_329 => ?_) (fun c_329 => ?_)
                      · skip
                        have c_329 := bI_0.mp c_329
                        refine lv_iconst (v := 1) hx hb dL_turn_414 (by decide) ?_
                        subst hQe
                        refine W.widen (k := 4) (n := 24) (Nat.le_of_ble_eq_true rfl) (Nat.le_of_ble_eq_true rfl) ?_
                        exact W.zret (v := 1) hx hb hr rfl (fun t ht hW => ⟨⟨_, (nI tn, mk, wn, cnt, own, lo, oth, lq, F, Qf), rfl, ⟨rfl, tn, mm, rfl, Or.inl ⟨rfl, hO, hQ, hg, hr9, hmk, hmm, hwn, hmw, hhas, hq⟩⟩, zh ht hP⟩, hS.F ht⟩) hS.2.2 dL_turn_415
                      · skip
                        have c_329 := bI_1.mp c_329
                        exact absurd (hw9.symm.trans c_329) (by decide)
                    · skip
                      have c_312 := bI_1.mp c_312
                      exact absurd (hw9.symm.trans c_312) (by decide)
              have lp : ∀ (n9 : Nat) (kx : Nat) (pl : Nat), kx ≤ 15 → pl ≤ 14 → 15 - kx < n9 → ∀ (H : Heap) (locs : List Loc), va_P (dC, dI) vwCl [(ax, .inr (2, [.ref a0, .ref a1, .ref ae, .ref aw, .int (nI k), .int (nI tn), .int mk, .int wn, .int cnt])), (ao, .inr (1, [.long (lN own), .int lo])), (aq, .inr (1, [.long (lN oth), .int lq])), (rx, .inl (cyI, 32, .inl F)), (rq, .inl (cyI, 7, .inl Qf))] H → va_S (zA [ax, ao, aq, rx, rq]) s.heap H locs → ∀ ls : Array Slot, lv_has ls 9 [(7, .int (nI kx)), (6, .int (nI pl)), (4, .int (nI mj)), (0, .ref ax), (1, .int z), (2, .ref rx), (3, .ref rq)] → W p l e (headSpec wsL_turn ({ frames := 10, cells := 4, slots := 24, locals := 170 })).room s m ([.ref ax, .int z, .ref rx, .ref rq] : List Value).toArray below meth c H locs 0 0 Q (F0 m 223 ls []) := by
                intro n9
                induction n9 with
                | zero => intro kx pl hkx hpl hm9; exact absurd hm9 (Nat.not_lt_zero _)
                | succ n9 ih223 =>
                  intro kx pl hkx hpl hm9 H locs hP hS ls hl
                  refine lv_iload hx hb dL_turn_223 (lv_at hl 0 rfl) ?_
                  refine lv_bipush (v := 15) hx hb dL_turn_225 (by decide) ?_
                  refine lv_icmp_ge (tgt := 271) hx hb dL_turn_227 (by decide) (fun c_227 => ?_) (fun c_227 => ?_)
                  · skip
                    have c_227 : 15 ≤ kx := (nI_leI (a := 15) (b := kx) (by omega) (by omega)).mp c_227
                    exact k271 pl (by omega) _ _ hP hS _ (lv_sub hl [1, 2, 3, 4, 5, 6] rfl)
                  · skip
                    have c_227 : ¬ 15 ≤ kx := fun h9 => c_227 ((nI_leI (a := 15) (b := kx) (by omega) (by omega)).mpr h9)
                    refine lv_iload_n hx hb dL_turn_230 rfl (lv_at hl 4 rfl) ?_
                    refine lv_bipush (v := 9) hx hb dL_turn_231 (by decide) ?_
                    refine lv_ishr hx hb dL_turn_233 ?_
                    refine lv_iconst (v := 4) hx hb dL_turn_234 (by decide) ?_
                    refine zre_i (va_runS (As := [.int (z >>> (9 &&& 31)), .int 4]) (rest := []) ⟨hx, hb, hml, hown, hts⟩ (c_L_low l (z >>> (9 &&& 31)) 4 (by omega) (by omega)) (va_cwS 2 hts gL_turn_L_low rfl rfl rfl (by decide +kernel) ⟨Nat.le_of_ble_eq_true rfl, Nat.le_of_ble_eq_true rfl⟩) zPu rfl rfl hl.1 rfl (lv_room (Nat.le_of_ble_eq_true rfl)) dL_turn_235 ⟨Nat.le_of_ble_eq_true rfl, Nat.le_of_ble_eq_true rfl⟩) hP hS (fun r_235 H locs hw_235 hP hS => ?_)
                    obtain ⟨j_235, hj_235, rfl⟩ := hw_235
                    refine lv_if_le (tgt := 271) hx hb dL_turn_238 (by decide) (fun c_238 => ?_) (fun c_238 => ?_)
                    · skip
                      have c_238 : j_235 ≤ 0 := (nI_leI (a := j_235) (b := 0) (by omega) (by omega)).mp c_238
                      exact k271 pl (by omega) _ _ hP hS _ (lv_sub hl [1, 2, 3, 4, 5, 6] rfl)
                    · skip
                      have c_238 : ¬ j_235 ≤ 0 := fun h9 => c_238 ((nI_leI (a := j_235) (b := 0) (by omega) (by omega)).mpr h9)
                      refine lv_aload_n hx hb dL_turn_241 rfl (lv_at hl 5 rfl) ?_
                      refine lv_aload_n hx hb dL_turn_242 rfl (lv_at hl 6 rfl) ?_
                      refine lv_iconst (v := 1) hx hb dL_turn_243 (by decide) ?_
                      refine zi_iald hx hb hK hP 4 0 rfl rfl (j := 1) rfl (by omega) (by decide) dL_turn_244 ?_
                      refine zz_i (y := nI tn) hq.2.1 ?_
                      refine lv_iload hx hb dL_turn_245 (lv_at hl 1 rfl) ?_
                      refine lv_aload_n hx hb dL_turn_247 rfl (lv_at hl 6 rfl) ?_
                      refine lv_iconst (v := 2) hx hb dL_turn_248 (by decide) ?_
                      refine zi_iald hx hb hK hP 4 0 rfl rfl (j := 2) rfl (by omega) (by decide) dL_turn_249 ?_
                      refine zz_i (y := nI mm) (hq.2.2.1.trans (zmk_ne hmk hm)) ?_
                      refine zro_i (va_runS (As := [.ref rx, .int (nI tn), .int (nI pl), .int (nI mm)]) (rest := []) ⟨hx, hb, hml, hown, hts⟩ (c_L_can l dC dI cyI cyJ rx F tn own oth (by omega) hr9 pl mm (by omega) (by omega)) (va_cwS 4 hts gL_turn_L_can rfl rfl rfl (by decide +kernel) ⟨Nat.le_of_ble_eq_true rfl, Nat.le_of_ble_eq_true rfl⟩) (zPc_S zB_T hP hK [3] rfl (fun _ _ _ => trivial)) rfl rfl hl.1 rfl (lv_room (Nat.le_of_ble_eq_true rfl)) dL_turn_250 ⟨Nat.le_of_ble_eq_true rfl, Nat.le_of_ble_eq_true rfl⟩) hP hS (fun H locs hP hS => ?_)
                      refine lv_if_ne (tgt := 271) hx hb dL_turn_253 (by decide) (fun c_253 => ?_) (fun c_253 => ?_)
                      · skip
                        have c_253 := bI_1.mp c_253
                        exact k271 pl (by omega) _ _ hP hS _ (lv_sub hl [1, 2, 3, 4, 5, 6] rfl)
                      · skip
                        have c_253 := bI_0.mp c_253
                        refine lv_iload hx hb dL_turn_256 (lv_at hl 1 rfl) ?_
                        refine lv_iconst (v := 1) hx hb dL_turn_258 (by decide) ?_
                        refine lv_iadd hx hb dL_turn_259 ?_
                        refine zz_i (y := nI (pl + 1)) (nI_add pl 1) ?_
                        refine lv_bipush (v := 15) hx hb dL_turn_260 (by decide) ?_
                        refine lv_irem hx hb dL_turn_262 (by decide) ?_
                        refine zz_i (y := nI ((pl + 1) % 15)) (pk_rem (a := pl + 1) (d := 15) (by omega) (by decide) (by decide)) ?_
                        refine lv_istore (lv' := [(6, .int (nI ((pl + 1) % 15))), (7, .int (nI kx)), (4, .int (nI mj)), (0, .ref ax), (1, .int z), (2, .ref rx), (3, .ref rq)]) hx hb dL_turn_263 hl (by decide) rfl (fun ls hl => ?_)
                        refine lv_iinc (v := nI (kx + 1)) (lv' := [(7, .int (nI (kx + 1))), (6, .int (nI ((pl + 1) % 15))), (4, .int (nI mj)), (0, .ref ax), (1, .int z), (2, .ref rx), (3, .ref rq)]) hx hb dL_turn_265 hl (k := 1) rfl (nI_1 kx) (by decide) rfl (fun ls hl => ?_)
                        refine lv_goto (tgt := 223) hx hb dL_turn_268 (by decide) ?_
                        exact ih223 (kx + 1) _ (by omega) (by omega) (by omega) _ _ hP hS _ (lv_sub hl [0, 1, 2, 3, 4, 5, 6] rfl)
              exact lp 16 0 j_215 (by omega) (by omega) (by omega) _ _ hP hS _ (lv_sub hl [0, 1, 3, 4, 5, 6, 7] rfl)
            · skip
              exact absurd ((zmk_neg hmk hmm).mp (Int32.not_le.mp c_110)) hm
          · skip
            have c_62 : ¬ 15 ≤ i := fun h9 => c_62 ((nI_leI (a := 15) (b := i) (by omega) (by omega)).mpr h9)
            refine lv_iload hx hb dL_turn_65 (lv_at hl 1 rfl) ?_
            refine lv_aload_n hx hb dL_turn_67 rfl (lv_at hl 5 rfl) ?_
            refine lv_aload_n hx hb dL_turn_68 rfl (lv_at hl 6 rfl) ?_
            refine lv_iconst (v := 1) hx hb dL_turn_69 (by decide) ?_
            refine zi_iald hx hb hK hP 4 0 rfl rfl (j := 1) rfl (by omega) (by decide) dL_turn_70 ?_
            refine zz_i (y := nI tn) hq.2.1 ?_
            refine lv_iload hx hb dL_turn_71 (lv_at hl 0 rfl) ?_
            refine lv_aload_n hx hb dL_turn_73 rfl (lv_at hl 6 rfl) ?_
            refine lv_iconst (v := 2) hx hb dL_turn_74 (by decide) ?_
            refine zi_iald hx hb hK hP 4 0 rfl rfl (j := 2) rfl (by omega) (by decide) dL_turn_75 ?_
            refine zz_i (y := mk) hq.2.2.1 ?_
            refine lv_if_ge (tgt := 84) hx hb dL_turn_76 (by decide) (fun c_76 => ?_) (fun c_76 => ?_)
            · skip
              refine lv_aload_n hx hb dL_turn_84 rfl (lv_at hl 6 rfl) ?_
              refine lv_iconst (v := 2) hx hb dL_turn_85 (by decide) ?_
              refine zi_iald hx hb hK hP 4 0 rfl rfl (j := 2) rfl (by omega) (by decide) dL_turn_86 ?_
              refine zz_i (y := nI mm) (hq.2.2.1.trans (zmk_ne hmk hm)) ?_
              refine zro_i (va_runS (As := [.ref rx, .int (nI tn), .int (nI i), .int (nI mm)]) (rest := [.int (nI cv)]) ⟨hx, hb, hml, hown, hts⟩ (c_L_can l dC dI cyI cyJ rx F tn own oth (by omega) hr9 i mm (by omega) (by omega)) (va_cwS 4 hts gL_turn_L_can rfl rfl rfl (by decide +kernel) ⟨Nat.le_of_ble_eq_true rfl, Nat.le_of_ble_eq_true rfl⟩) (zPc_S zB_T hP hK [3] rfl (fun _ _ _ => trivial)) rfl rfl hl.1 rfl (lv_room (Nat.le_of_ble_eq_true rfl)) dL_turn_87 ⟨Nat.le_of_ble_eq_true rfl, Nat.le_of_ble_eq_true rfl⟩) hP hS (fun H locs hP hS => ?_)
              refine lv_if_eq (tgt := 97) hx hb dL_turn_90 (by decide) (fun c_90 => ?_) (fun c_90 => ?_)
              · skip
                have c_90 := bI_0.mp c_90
                refine lv_iconst (v := 0) hx hb dL_turn_97 (by decide) ?_
                refine lv_iadd hx hb dL_turn_98 ?_
                refine zz_i (y := nI (cv + 0)) (nI_add cv 0) ?_
                refine lv_istore (lv' := [(5, .int (nI (cv + 0))), (6, .int (nI i)), (4, .int (nI mj)), (0, .ref ax), (1, .int z), (2, .ref rx), (3, .ref rq)]) hx hb dL_turn_99 hl (by decide) rfl (fun ls hl => ?_)
                refine lv_iinc (v := nI (i + 1)) (lv' := [(6, .int (nI (i + 1))), (5, .int (nI (cv + 0))), (4, .int (nI mj)), (0, .ref ax), (1, .int z), (2, .ref rx), (3, .ref rq)]) hx hb dL_turn_101 hl (k := 1) rfl (nI_1 i) (by decide) rfl (fun ls hl => ?_)
                refine lv_goto (tgt := 58) hx hb dL_turn_104 (by decide) ?_
                exact ih58 (i + 1) _ (by omega) (by rw [zNum_s, if_neg (by rw [c_90]; decide), hcv]) (by omega) _ _ hP hS _ (lv_sub hl [0, 1, 2, 3, 4, 5, 6] rfl)
              · skip
                have c_90 := bI_1.mp c_90
                refine lv_iconst (v := 1) hx hb dL_turn_93 (by decide) ?_
                refine lv_goto (tgt := 98) hx hb dL_turn_94 (by decide) ?_
                refine lv_iadd hx hb dL_turn_98 ?_
                refine zz_i (y := nI (cv + 1)) (nI_add cv 1) ?_
                refine lv_istore (lv' := [(5, .int (nI (cv + 1))), (6, .int (nI i)), (4, .int (nI mj)), (0, .ref ax), (1, .int z), (2, .ref rx), (3, .ref rq)]) hx hb dL_turn_99 hl (by decide) rfl (fun ls hl => ?_)
                refine lv_iinc (v := nI (i + 1)) (lv' := [(6, .int (nI (i + 1))), (5, .int (nI (cv + 1))), (4, .int (nI mj)), (0, .ref ax), (1, .int z), (2, .ref rx), (3, .ref rq)]) hx hb dL_turn_101 hl (k := 1) rfl (nI_1 i) (by decide) rfl (fun ls hl => ?_)
                refine lv_goto (tgt := 58) hx hb dL_turn_104 (by decide) ?_
                exact ih58 (i + 1) _ (by omega) (by rw [zNum_s, if_pos c_90, hcv]) (by omega) _ _ hP hS _ (lv_sub hl [0, 1, 2, 3, 4, 5, 6] rfl)
            · skip
              exact absurd ((zmk_neg hmk hmm).mp (Int32.not_le.mp c_76)) hm
      exact lc 16 0 0 (by omega) rfl (by omega) _ _ hP hS _ (lv_sub hl [0, 1, 2, 3, 4, 5, 6] rfl)
  refine lv_istore (lv' := [(4, .int (nI j_3)), (0, .ref ax), (1, .int z), (2, .ref rx), (3, .ref rq)]) hx hb dL_turn_6 hl (by decide) rfl (fun ls hl => ?_)
  refine lv_iload hx hb dL_turn_8 (lv_at hl 0 rfl) ?_
  refine lv_if_ne (tgt := 17) hx hb dL_turn_10 (by decide) (fun c_10 => ?_) (fun c_10 => ?_)
  · skip
    have c_10 : ¬ j_3 = 0 := fun h9 => c_10 ((nI_eq (a := j_3) (b := 0) (by omega) (by omega)).mpr h9)
    refine lv_iload hx hb dL_turn_17 (lv_at hl 0 rfl) ?_
    refine lv_iconst (v := 5) hx hb dL_turn_19 (by decide) ?_
    refine lv_icmp_ge (tgt := 27) hx hb dL_turn_20 (by decide) (fun c_20 => ?_) (fun c_20 => ?_)
    · skip
      have c_20 : 5 ≤ j_3 := (nI_leI (a := 5) (b := j_3) (by omega) (by omega)).mp c_20
      refine lv_iload hx hb dL_turn_27 (lv_at hl 0 rfl) ?_
      refine lv_bipush (v := 11) hx hb dL_turn_29 (by decide) ?_
      refine lv_icmp_ge (tgt := 38) hx hb dL_turn_31 (by decide) (fun c_31 => ?_) (fun c_31 => ?_)
      · skip
        have c_31 : 11 ≤ j_3 := (nI_leI (a := 11) (b := j_3) (by omega) (by omega)).mp c_31
        refine lv_iload hx hb dL_turn_38 (lv_at hl 0 rfl) ?_
        refine lv_bipush (v := 15) hx hb dL_turn_40 (by decide) ?_
        refine lv_icmp_ge (tgt := 49) hx hb dL_turn_42 (by decide) (fun c_42 => ?_) (fun c_42 => ?_)
        · skip
          have c_42 : 15 ≤ j_3 := (nI_leI (a := 15) (b := j_3) (by omega) (by omega)).mp c_42
          refine lv_iconst (v := 4) hx hb dL_turn_49 (by decide) ?_
          refine zz_i (y := nI 4) rfl ?_
          exact k50 4 (by decide) _ _ hP hS _ (lv_sub hl [1, 2, 3, 4] rfl)
        · skip
          have c_42 : ¬ 15 ≤ j_3 := fun h9 => c_42 ((nI_leI (a := 15) (b := j_3) (by omega) (by omega)).mpr h9)
          refine lv_iconst (v := 3) hx hb dL_turn_45 (by decide) ?_
          refine zz_i (y := nI 3) rfl ?_
          refine lv_goto (tgt := 50) hx hb dL_turn_46 (by decide) ?_
          exact k50 3 (by decide) _ _ hP hS _ (lv_sub hl [1, 2, 3, 4] rfl)
      · skip
        have c_31 : ¬ 11 ≤ j_3 := fun h9 => c_31 ((nI_leI (a := 11) (b := j_3) (by omega) (by omega)).mpr h9)
        refine lv_iconst (v := 2) hx hb dL_turn_34 (by decide) ?_
        refine zz_i (y := nI 2) rfl ?_
        refine lv_goto (tgt := 50) hx hb dL_turn_35 (by decide) ?_
        exact k50 2 (by decide) _ _ hP hS _ (lv_sub hl [1, 2, 3, 4] rfl)
    · skip
      have c_20 : ¬ 5 ≤ j_3 := fun h9 => c_20 ((nI_leI (a := 5) (b := j_3) (by omega) (by omega)).mpr h9)
      refine lv_iconst (v := 1) hx hb dL_turn_23 (by decide) ?_
      refine zz_i (y := nI 1) rfl ?_
      refine lv_goto (tgt := 50) hx hb dL_turn_24 (by decide) ?_
      exact k50 1 (by decide) _ _ hP hS _ (lv_sub hl [1, 2, 3, 4] rfl)
  · skip
    have c_10 : j_3 = 0 := (nI_eq (a := j_3) (b := 0) (by omega) (by omega)).mp c_10
    refine lv_iconst (v := 0) hx hb dL_turn_13 (by decide) ?_
    refine zz_i (y := nI 0) rfl ?_
    refine lv_goto (tgt := 50) hx hb dL_turn_14 (by decide) ?_
    exact k50 0 (by decide) _ _ hP hS _ (lv_sub hl [1, 2, 3, 4] rfl)

/-! the start of the law: what the tables give -/
theorem zl_in {args : Array Value} {s : State} (h : ∀ w ∈ lw_tbl, w.before args s = true) (w : Cond) (hw : w ∈ lw_tbl) : w.before args s = true := h w hw
theorem zl_G {b : Nat} {s : State} (hts : ∀ w ∈ lw_tbl, w.before #[Value.ref b] s = true) (hgv : (Jvm.Cond.and given_1 narrow_1).before #[Value.ref b] s = true) : ∃ tb : Nat, zH tb (fun q : Nat => s.heap.size ≤ q) s s.heap := by
  have hq := flat_of_before _ hgv
  have hA : ∀ a : Nat, a < s.heap.size → ¬ (fun q : Nat => s.heap.size ≤ q) a := fun a h => Nat.not_le.mpr h
  obtain ⟨tb, e1, hT⟩ := va_Tof (A := (fun q : Nat => s.heap.size ≤ q)) (args := #[Value.ref b]) (s := s) (tm := .static "RoyalUrTable$Dice" "TIMES_IN_16" "[I") (ty := .int) (N := 5) (f := ztv) (by decide) (hq _ (by decide +kernel)) (va_eqt (z := 5) (hq _ (by decide +kernel)))
    (fun j hj => by
      rcases (show j = 0 ∨ j = 1 ∨ j = 2 ∨ j = 3 ∨ j = 4 by omega) with rfl | rfl | rfl | rfl | rfl
      · exact va_eqt (t := .elem (.static "RoyalUrTable$Dice" "TIMES_IN_16" "[I") (.int 0)) (z := 1) (hq _ (by decide +kernel))
      · exact va_eqt (t := .elem (.static "RoyalUrTable$Dice" "TIMES_IN_16" "[I") (.int 1)) (z := 4) (hq _ (by decide +kernel))
      · exact va_eqt (t := .elem (.static "RoyalUrTable$Dice" "TIMES_IN_16" "[I") (.int 2)) (z := 6) (hq _ (by decide +kernel))
      · exact va_eqt (t := .elem (.static "RoyalUrTable$Dice" "TIMES_IN_16" "[I") (.int 3)) (z := 4) (hq _ (by decide +kernel))
      · exact va_eqt (t := .elem (.static "RoyalUrTable$Dice" "TIMES_IN_16" "[I") (.int 4)) (z := 1) (hq _ (by decide +kernel))) hA
  have hZ := va_Zref (A := (fun q : Nat => s.heap.size ≤ q)) (hts (.laysStatic "RoyalUrTable$Dice" "TIMES_IN_16" "[I") (by decide +kernel)) (hts (.initialized "RoyalUrTable$Dice") (by decide +kernel)) e1 hA
  have hU := vx_Zqof (A := (fun q : Nat => s.heap.size ≤ q)) (hts (.laysStatic Bundle.tN "UNASSIGNED_STACK" Bundle.steD) (by decide +kernel)) (hts (.initialized Bundle.tN) (by decide +kernel)) (hq (.isRef (.static Bundle.tN "UNASSIGNED_STACK" Bundle.steD)) (by decide +kernel)) hA
  have hN := vx_Zqof (A := (fun q : Nat => s.heap.size ≤ q)) (hts (.laysStatic Bundle.tN "SUPPRESSED_SENTINEL" Bundle.listD) (by decide +kernel)) (hts (.initialized Bundle.tN) (by decide +kernel)) (hq (.isRef (.static Bundle.tN "SUPPRESSED_SENTINEL" Bundle.listD)) (by decide +kernel)) hA
  refine ⟨tb, ⟨⟨hZ, hT⟩, hU, hN, va_Nw.of rfl (hts (.declares (Bundle.init0 "java/lang/RuntimeException")) (by decide +kernel)), va_Nw.of rfl (hts (.declares (Bundle.init0 "java/lang/Exception")) (by decide +kernel)), va_Nw.of rfl (hts (.declares (Bundle.init0 Bundle.tN)) (by decide +kernel)), va_Nw.of rfl (hts (.castable zIA zIA) (by decide +kernel)), va_Nw.of rfl (hts (.castable zIS zIS) (by decide +kernel))⟩, va_Nc.of (hq (.not (.castable zIS zIA)) (by decide +kernel))⟩
theorem zl_arr {b : Nat} {s : State} {ty : FieldType} (h : (Cond.arrayClass ty).before #[Value.ref b] s = true) (hra : ∀ x : ClassId, s.vm.findClass ("[" ++ ty.toString) = some x → va_RA s x ty) : ∃ cA : ClassId, ArrOfT s cA ty ∧ va_RA s cA ty := by
  obtain ⟨cA, kA, comp, h1, h2, h3⟩ := Cond.arrayClass_spec h
  exact ⟨cA, fun n z => ⟨fun k h => (by cases h), kA, h2, comp, h3⟩, hra cA h1⟩
theorem zl_link {b : Nat} {s : State} (hts : ∀ w ∈ lw_tbl, w.before #[Value.ref b] s = true) : va_Nw (.methodLinkNest RX5 9 yX3_init "RoyalUrTable") s := va_Nw.of rfl (hts (.methodLinkNest RX5 9 yX3_init "RoyalUrTable") (by decide +kernel))

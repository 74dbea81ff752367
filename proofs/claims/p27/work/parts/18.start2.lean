/-! THE START (2): the tables that are constants -/
set_option maxRecDepth 100000 in
theorem tb_s {s : State} {b : Nat} (hts : ∀ w ∈ lw_tbl, w.before #[Value.ref b] s = true) (hgv : (Jvm.Cond.and given_1 narrow_1).before #[Value.ref b] s = true) : ∃ t1 t2, hb_T (tbX t1 t2) (fun q => s.heap.size ≤ q) s s.heap := by
  have hs := flat_of_before _ hgv
  have hA : ∀ a : Nat, a < s.heap.size → ¬ (fun q : Nat => s.heap.size ≤ q) a := fun a h => Nat.not_le.mpr h
  have el0 : ∀ j, j < 3 → (Term.elem (.static "HeatBills" "SETTING_LIMITS" "[I") (.int (Int32.ofNat j))).eval #[Value.ref b] s none [] s = some (.int (tbX1f j)) := by
    intro j hj
    rcases (show j = 0 ∨ j = 1 ∨ j = 2 by omega) with rfl | rfl | rfl
    all_goals exact va_eqt (hs _ (by decide +kernel))
  obtain ⟨t0, e0, T0⟩ := va_Tof (tm := (.static "HeatBills" "SETTING_LIMITS" "[I")) (ty := .int) (N := 3) (f := fun j => .int (tbX1f j)) (A := fun q => s.heap.size ≤ q) (by decide) (hs _ (by decide +kernel)) (va_eqt (z := 3) (hs _ (by decide +kernel))) el0 hA
  have Z0 := va_Zref (A := fun q => s.heap.size ≤ q) (hts (.laysStatic "HeatBills" "SETTING_LIMITS" "[I") (by decide +kernel)) (hts (.initialized "HeatBills") (by decide +kernel)) e0 hA
  have el1 : ∀ j, j < 12 → (Term.elem (.static "HeatBills" "MONTH_WEIGHTS" "[I") (.int (Int32.ofNat j))).eval #[Value.ref b] s none [] s = some (.int (tbX2f j)) := by
    intro j hj
    rcases (show j = 0 ∨ j = 1 ∨ j = 2 ∨ j = 3 ∨ j = 4 ∨ j = 5 ∨ j = 6 ∨ j = 7 ∨ j = 8 ∨ j = 9 ∨ j = 10 ∨ j = 11 by omega) with rfl | rfl | rfl | rfl | rfl | rfl | rfl | rfl | rfl | rfl | rfl | rfl
    all_goals exact va_eqt (hs _ (by decide +kernel))
  obtain ⟨t1, e1, T1⟩ := va_Tof (tm := (.static "HeatBills" "MONTH_WEIGHTS" "[I")) (ty := .int) (N := 12) (f := fun j => .int (tbX2f j)) (A := fun q => s.heap.size ≤ q) (by decide) (hs _ (by decide +kernel)) (va_eqt (z := 12) (hs _ (by decide +kernel))) el1 hA
  have Z1 := va_Zref (A := fun q => s.heap.size ≤ q) (hts (.laysStatic "HeatBills" "MONTH_WEIGHTS" "[I") (by decide +kernel)) (hts (.initialized "HeatBills") (by decide +kernel)) e1 hA
  refine ⟨t0, t1, fun q hq => ?_⟩
  rcases List.mem_cons.mp hq with rfl | hq
  · exact ⟨Z0, T0⟩
  · rcases List.mem_cons.mp hq with rfl | hq
    · exact ⟨Z1, T1⟩
    · cases hq

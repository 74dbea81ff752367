/-! THE START (1): classes of arrays, nests, tables -/
theorem ak_prim {ty : FieldType} {args : Array Value} {s : State} (h : (Cond.arrayClass ty).before args s = true) : ∃ cA : ClassId, ArrOfT s cA ty ∧ s.vm.findClass ("[" ++ ty.toString) = some cA := by
  obtain ⟨c, k, comp, h1, h2, h3⟩ := Cond.arrayClass_spec h
  exact ⟨c, fun n z => ⟨fun k h => (by cases h), k, h2, comp, h3⟩, h1⟩
theorem ak_obj {C : String} {args : Array Value} {s : State} (h : (Cond.arrayOver (.object C)).before args s = true) : ∃ cA : ClassId, ArrOfT s cA (.object C) ∧ va_RA s cA (.object C) := by
  obtain ⟨comp, c, k, h1, -, h2, h3, h4⟩ := Cond.arrayOver_spec h
  exact ⟨c, fun n z => ⟨fun k h => (by cases h), k, h2, comp, h3⟩, k, comp, h2, h3, h1, h4⟩
theorem bT_K {s : State} {args : Array Value} {D : va_G} (hts : ∀ w ∈ lw_tbl, w.before args s = true) (hK : va_K D vwCl [] s) : ∃ cI cZ cC cJ cY cH : ClassId, va_K D vwCl (bT cI cZ cC cJ cY cH) s ∧ bAO s := by
  obtain ⟨cI, a1, a2⟩ := ak_prim (hts (.arrayClass .int) (by decide +kernel))
  obtain ⟨cZ, b1, b2⟩ := ak_prim (hts (.arrayClass .boolean) (by decide +kernel))
  obtain ⟨cC, c1, c2⟩ := ak_prim (hts (.arrayClass .char) (by decide +kernel))
  obtain ⟨cJ, d1, d2⟩ := ak_prim (hts (.arrayClass .long) (by decide +kernel))
  have hY := hts (.arrayOver (.object RX4)) (by decide +kernel)
  have hH := hts (.arrayOver (.object RX2)) (by decide +kernel)
  obtain ⟨cY, e1, e2⟩ := ak_obj hY
  obtain ⟨cH, f1, f2⟩ := ak_obj hH
  refine ⟨cI, cZ, cC, cJ, cY, cH, ⟨hK.1, fun k q hq => ?_⟩, va_AO.of hY, va_AO.of hH⟩
  match k, hq with
  | 0, hq => cases hq; exact ⟨a1, a2⟩
  | 1, hq => cases hq; exact ⟨b1, b2⟩
  | 2, hq => cases hq; exact ⟨c1, c2⟩
  | 3, hq => cases hq; exact ⟨d1, d2⟩
  | 4, hq => cases hq; exact ⟨e1, e2⟩
  | 5, hq => cases hq; exact ⟨f1, f2⟩
  | k + 6, hq => simp [bT] at hq
theorem bT_kd {s : State} {D : va_G} {cI cZ cC cJ cY cH : ClassId} (hK : va_K D vwCl (bT cI cZ cC cJ cY cH) s) {kd : Nat → hb_k} {N : Nat} (hkd : ∀ k, k < N → ∀ ty, hb_t kd k = some ty → ty = .int ∨ ty = .boolean ∨ ty = .char ∨ ty = .long ∨ ty = .object RX4 ∨ ty = .object RX2) : hb_K vwCl kd N D (bD cI cZ cC cJ cY cH kd) s := by
  refine ⟨⟨hK.1, fun k q hq => by cases hq⟩, fun k hk ty hty => ?_⟩
  have h := hkd k hk ty hty
  unfold bD
  rw [hty]
  rcases h with rfl | rfl | rfl | rfl | rfl | rfl
  · exact hK.2 0 _ rfl
  · exact hK.2 1 _ rfl
  · exact hK.2 2 _ rfl
  · exact hK.2 3 _ rfl
  · exact hK.2 4 _ rfl
  · exact hK.2 5 _ rfl
theorem nw_s {s : State} {args : Array Value} (hts : ∀ w ∈ lw_tbl, w.before args s = true) : hb_N nwX s := by
  intro q hq
  have h : Cond.methodLinkNest q.1 q.2.1 q.2.2.1 q.2.2.2 ∈ lw_tbl := by
    have hall : ∀ q ∈ nwX, Cond.methodLinkNest q.1 q.2.1 q.2.2.1 q.2.2.2 ∈ lw_tbl := by decide +kernel
    exact hall q hq
  exact va_Nw.of rfl (hts _ h)

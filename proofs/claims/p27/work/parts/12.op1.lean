/-! BOTH SIDES: questions -/
def Op {α : Type} (a : Option (α × hb_m)) (b : Option (α × hb_m)) : Prop := ∃ r μ' ν', a = some (r, μ') ∧ b = some (r, ν') ∧ RR μ' ν'
theorem isI_eq {p : Int32} {F : Nat} (hF : F < 2147483648) : (0 ≤ p ∧ p ≤ nI F - 1) = (0 ≤ p ∧ p < nI F) := by
  apply propext
  by_cases h0 : F = 0
  · subst h0
    constructor
    · intro q
      exact absurd (Int32.le_trans q.1 q.2) (by decide)
    · intro q
      exact absurd q.1 (Int32.not_le.mpr q.2)
  · rw [li1, sub_ok (by omega)]
    constructor
    · intro q
      refine ⟨q.1, ?_⟩
      obtain ⟨j, hj, rfl⟩ := nI_of (Int32.not_lt.mpr q.1)
      have := q.2
      rw [le_ok (by omega) (by omega)] at this
      rw [lt_ok (by omega) (by omega)]
      omega
    · intro q
      refine ⟨q.1, ?_⟩
      obtain ⟨j, hj, rfl⟩ := nI_of (Int32.not_lt.mpr q.1)
      have := q.2
      rw [lt_ok (by omega) (by omega)] at this
      rw [le_ok (by omega) (by omega)]
      omega
theorem isI_y {j F : Nat} (h : j < F) (hF : F < 2147483648) : 0 ≤ nI j ∧ nI j < nI F := ⟨nI_pos' (by omega), by rw [lt_ok (by omega) (by omega)]; exact h⟩
theorem isI_n {p : Int32} {F : Nat} (h : p < 0 ∨ nI F ≤ p) : ¬ (0 ≤ p ∧ p < nI F) := fun q => by
  rcases h with h | h
  · exact absurd q.1 (Int32.not_le.mpr h)
  · exact absurd q.2 (Int32.not_lt.mpr h)
theorem nar1 : vp_nar .boolean 1 = 1 := rfl
theorem nar0 : vp_nar .boolean 0 = 0 := rfl
theorem narI {c : Prop} [Decidable c] : vp_nar .boolean (if c then 1 else 0) = if c then 1 else 0 := by
  by_cases h : c
  · rw [if_pos h]; rfl
  · rw [if_neg h]; rfl

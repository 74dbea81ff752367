/-! THE REFERENCE, PURE: its small methods -/
def p_snd (ρ : Nat → Int32) (d : Nat) : Int32 := (ρ (34 + 5 * d) - ρ (33 + 5 * d)) * ρ (32 + 5 * d)
def p_sU (ρ : Nat → Int32) (D : Nat) : Int32 := sI (fun d => if ρ (35 + 5 * d) = 0 then p_snd ρ d else 0) D
def p_sF (ρ : Nat → Int32) (D : Nat) : Int32 := sI (fun d => if ρ (35 + 5 * d) = 0 then ρ (32 + 5 * d) else 0) D
def p_est (ρ : Nat → Int32) (D d : Nat) : Int32 := if p_sF ρ D = 0 then 0 else ρ (32 + 5 * d) * p_sU ρ D / p_sF ρ D
def p_uN (ρ : Nat → Int32) (D Y d : Nat) : Int32 := if ρ (35 + 5 * d) = 0 then p_snd ρ d else if ρ 5 = 1 ∧ 0 < Y ∧ nI d < ρ (62 + 71 * Y) then ρ (63 + 71 * Y + d) else p_est ρ D d
def p_wA (m : Nat) : Int32 := sI tbX2f m
theorem M_in {n : Nat} {a b c : Int32} {μ : hb_m} : fX6_in n a b c μ = some (if b ≤ a ∧ a ≤ c then 1 else 0, μ) := by
  unfold fX6_in
  by_cases h : a < b
  · rw [if_pos h, if_neg (fun q => absurd q.1 (Int32.not_le.mpr h))]
  · by_cases h2 : c < a
    · rw [if_neg h, if_pos h2, if_neg (fun q => absurd q.2 (Int32.not_le.mpr h2))]
    · rw [if_neg h, if_neg h2, if_pos ⟨Int32.not_lt.mp h, Int32.not_lt.mp h2⟩]
theorem M_of {n d w : Nat} {μ : hb_m} (h : 31 + 5 * d + w < 415) : fX6_of n (nI d) (nI w) μ = some (rd μ 1 (31 + 5 * d + w), μ) := by
  unfold fX6_of
  simp (disch := omega) only [li31, li5, pk_mul, nI_add, ib_ok, cl_ok, if_true]
theorem M_ofFlat {n f w : Nat} {μ : hb_m} (h : 7 + 3 * f + w < 415) : fX6_ofFlat n (nI f) (nI w) μ = some (rd μ 1 (7 + 3 * f + w), μ) := by
  unfold fX6_ofFlat
  simp (disch := omega) only [li7, li3, pk_mul, nI_add, ib_ok, cl_ok, if_true]
theorem M_puts {n d w : Nat} {v : Int32} {μ : hb_m} (h : 31 + 5 * d + w < 415) : fX6_puts n (nI d) (nI w) v μ = some (wr μ 1 (31 + 5 * d + w) v) := by
  unfold fX6_puts
  simp (disch := omega) only [li31, li5, pk_mul, nI_add, ib_ok, cl_ok, if_true]
theorem M_old {n y w : Nat} {μ : hb_m} : fX6_old n (nI y) (nI w) μ = some (nI (131 + 71 * y + w), μ) := by
  unfold fX6_old
  simp (disch := omega) only [li131, li71, pk_mul, nI_add]
theorem M_weight {n i : Nat} {μ : hb_m} (h : i < 12) : fX6_weight n (nI i) μ = some (tbX2f i, μ) := by
  rcases (show i = 0 ∨ i = 1 ∨ i = 2 ∨ i = 3 ∨ i = 4 ∨ i = 5 ∨ i = 6 ∨ i = 7 ∨ i = 8 ∨ i = 9 ∨ i = 10 ∨ i = 11 by omega) with rfl | rfl | rfl | rfl | rfl | rfl | rfl | rfl | rfl | rfl | rfl | rfl <;> rfl
theorem M_wA {n m : Nat} {μ : hb_m} (h : m ≤ 12) (hn : 2147483648 ≤ n) : fX6_weightsAhead n (nI m) μ = some (p_wA m, μ) := by
  unfold fX6_weightsAhead
  obtain ⟨⟨a, μ'⟩, ⟨h1, h2⟩, e⟩ := lo (S := Int32 × hb_m) (fun f i s => lX6_weightsAhead_4 n (nI m) (fun x2_4 x1_4 m4 => some (x1_4, m4)) f (nI i) s.1 s.2) m (fun s => some (s.1, s.2)) (fun i s => s.1 = sI tbX2f i ∧ s.2 = μ)
    (fun f s hI => by
      rw [lX6_weightsAhead_4]
      simp (disch := omega) only [le_ok, Nat.le_refl, if_true])
    (fun f i s hi hI => by
      obtain ⟨h1, h2⟩ := hI
      refine ⟨(s.1 + tbX2f i, s.2), ⟨by rw [h1]; rfl, h2⟩, ?_⟩
      rw [lX6_weightsAhead_4]
      simp (disch := omega) only [le_ok, M_weight, bi_some, li1, nI_add]
      rw [if_neg (by omega)])
    n 0 (0, μ) (by omega) (by omega) ⟨rfl, rfl⟩
  refine Eq.trans e ?_
  rw [h1, h2]
  rfl
theorem M_snd {n d : Nat} {μ : hb_m} (h : d < 76) : fX6_soundUnits n (nI d) μ = some (p_snd (rd μ 1) d, μ) := by
  unfold fX6_soundUnits p_snd
  simp (disch := omega) only [li3, li2, li1, M_of, bi_some]
  have e1 : 31 + 5 * d + 3 = 34 + 5 * d := by omega
  have e2 : 31 + 5 * d + 2 = 33 + 5 * d := by omega
  have e3 : 31 + 5 * d + 1 = 32 + 5 * d := by omega
  rw [e1, e2, e3]

/-! THE REFERENCE, PURE: units -/
theorem M_est {n D d : Nat} {μ : hb_m} (hD : rd μ 1 1 = nI D) (h8 : D ≤ 20) (hd : d < 20) (hn : 2147483648 ≤ n) : fX6_estimated n (nI d) μ = some (p_est (rd μ 1) D d, μ) := by
  unfold fX6_estimated
  obtain ⟨⟨a, b, μ'⟩, ⟨h1, h2, h3⟩, e⟩ := lo (S := Int32 × Int32 × hb_m) (fun f i s => lX6_estimated_7 n (nI d) (fun x4_7 x3_7 x2_7 m7 => if x3_7 = 0 then (some (0, m7)) else (bi (fX6_of n (nI d) 1 m7) (fun r89 m89 => if x3_7 = 0 then none else some (((r89 * x2_7) / x3_7), m89)))) f (nI i) s.1 s.2.1 s.2.2) D (fun s => if s.1 = 0 then (some (0, s.2.2)) else (bi (fX6_of n (nI d) 1 s.2.2) (fun r89 m89 => if s.1 = 0 then none else some (((r89 * s.2.1) / s.1), m89)))) (fun i s => s.1 = p_sF (rd μ 1) i ∧ s.2.1 = p_sU (rd μ 1) i ∧ s.2.2 = μ)
    (fun f s hI => by
      obtain ⟨a, b, μ'⟩ := s
      obtain ⟨h1, h2, rfl⟩ := hI
      rw [lX6_estimated_7]
      simp (disch := omega) only [li1, ib_ok, cl_ok, hD, le_ok, Nat.le_refl, if_true])
    (fun f i s hi hI => by
      obtain ⟨a, b, μ'⟩ := s
      obtain ⟨h1, h2, rfl⟩ := hI
      have e1 : 31 + 5 * i + 4 = 35 + 5 * i := by omega
      have e2 : 31 + 5 * i + 1 = 32 + 5 * i := by omega
      refine ⟨(p_sF (rd μ' 1) (i + 1), p_sU (rd μ' 1) (i + 1), μ'), ⟨rfl, rfl, rfl⟩, ?_⟩
      rw [lX6_estimated_7]
      dsimp only at h1 h2 ⊢
      subst h1
      subst h2
      simp (disch := omega) only [li1, li4, ib_ok, cl_ok, hD, le_ok, if_true, M_of, bi_some, M_snd, nI_add, e1, e2]
      rw [if_neg (by omega)]
      by_cases h0 : rd μ' 1 (35 + 5 * i) = 0
      · simp only [p_sF, p_sU, sI, h0, if_true]
      · simp only [p_sF, p_sU, sI, h0, if_false])
    n 0 (0, 0, μ) (by omega) (by omega) ⟨rfl, rfl, rfl⟩
  refine Eq.trans e ?_
  dsimp only at h1 h2 h3 ⊢
  subst h1
  subst h2
  subst h3
  have e2 : 31 + 5 * d + 1 = 32 + 5 * d := by omega
  simp (disch := omega) only [li1, M_of, bi_some, e2, p_est]
  by_cases h0 : p_sF (rd μ' 1) D = 0
  · simp only [h0, if_true]
  · simp only [h0, if_false]
theorem M_uN {n D Y d : Nat} {μ : hb_m} (hD : rd μ 1 1 = nI D) (h8 : D ≤ 20) (hY : rd μ 1 2 = nI Y) (hY4 : Y ≤ 4) (hd : d < 20) (hn : 2147483648 ≤ n) : fX6_unitsNow n (nI d) μ = some (p_uN (rd μ 1) D Y d, μ) := by
  have e1 : 31 + 5 * d + 4 = 35 + 5 * d := by omega
  unfold fX6_unitsNow p_uN
  rw [li4, M_of (by omega), bi_some, e1]
  by_cases h0 : rd μ 1 (35 + 5 * d) = 0
  · rw [if_pos h0, if_pos h0, M_snd (by omega), bi_some]
  · rw [if_neg h0, if_neg h0]
    simp (disch := omega) only [li2, li5, ib_ok, cl_ok, hY, if_true, M_est hD]
    by_cases hy : Y = 0
    · subst hy
      rw [if_pos (by decide)]
      simp only [Nat.lt_irrefl, false_and, and_false, if_false, ite_self, bi_some]
    · have hp : nI Y - 1 = nI (Y - 1) := by rw [li1]; exact sub_ok (by omega)
      have e3 : 131 + 71 * (Y - 1) + 2 = 62 + 71 * Y := by omega
      have e4 : 131 + 71 * (Y - 1) + (3 + d) = 63 + 71 * Y + d := by omega
      have hneg : ¬ nI (Y - 1) < 0 := nI_pos (by omega)
      have hpos : (0 : Int32) ≤ nI (Y - 1) := nI_pos' (by omega)
      have hY0 : 0 < Y := by omega
      simp (disch := omega) only [hp, hneg, hpos, if_false, if_true, M_old, bi_some, ib_ok, cl_ok, e3, li3, nI_add, e4, M_est hD, hY0, true_and]
      by_cases h2 : rd μ 1 (62 + 71 * Y) ≤ nI d
      · have h3 : ¬ nI d < rd μ 1 (62 + 71 * Y) := Int32.not_lt.mpr h2
        simp only [h2, h3, if_true, and_false, if_false, ite_self]
      · have h3 : nI d < rd μ 1 (62 + 71 * Y) := Int32.not_le.mp h2
        simp only [h2, h3, if_false, and_true]
        split <;> rfl

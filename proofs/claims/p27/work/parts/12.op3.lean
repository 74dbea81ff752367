/-! BOTH SIDES: flat, device -/
theorem ne_of {p : Int32} {N k : Nat} (hN : N < 2147483648) (h : p < 0 ∨ nI N ≤ p) (hk : k < N) : ¬ p = nI k := by
  intro e
  subst e
  rcases h with h | h
  · exact nI_pos (by omega) h
  · rw [le_ok (by omega) (by omega)] at h
    omega
theorem e10 : ((1 : Int32) = 0) = False := eq_false (by decide)
theorem e00 : ((0 : Int32) = 0) = True := eq_true rfl
theorem q_0_0 : (nI 0 = (0 : Int32)) = True := eq_true rfl
theorem q_0_1 : (nI 0 = (1 : Int32)) = False := eq_false (by decide)
theorem q_0_2 : (nI 0 = (2 : Int32)) = False := eq_false (by decide)
theorem q_0_3 : (nI 0 = (3 : Int32)) = False := eq_false (by decide)
theorem q_0_4 : (nI 0 = (4 : Int32)) = False := eq_false (by decide)
theorem q_0_5 : (nI 0 = (5 : Int32)) = False := eq_false (by decide)
theorem q_0_6 : (nI 0 = (6 : Int32)) = False := eq_false (by decide)
theorem q_0_7 : (nI 0 = (7 : Int32)) = False := eq_false (by decide)
theorem q_0_8 : (nI 0 = (8 : Int32)) = False := eq_false (by decide)
theorem q_0_9 : (nI 0 = (9 : Int32)) = False := eq_false (by decide)
theorem q_0_10 : (nI 0 = (10 : Int32)) = False := eq_false (by decide)
theorem q_0_11 : (nI 0 = (11 : Int32)) = False := eq_false (by decide)
theorem q_0_12 : (nI 0 = (12 : Int32)) = False := eq_false (by decide)
theorem q_0_13 : (nI 0 = (13 : Int32)) = False := eq_false (by decide)
theorem q_0_14 : (nI 0 = (14 : Int32)) = False := eq_false (by decide)
theorem q_1_0 : (nI 1 = (0 : Int32)) = False := eq_false (by decide)
theorem q_1_1 : (nI 1 = (1 : Int32)) = True := eq_true rfl
theorem q_1_2 : (nI 1 = (2 : Int32)) = False := eq_false (by decide)
theorem q_1_3 : (nI 1 = (3 : Int32)) = False := eq_false (by decide)
theorem q_1_4 : (nI 1 = (4 : Int32)) = False := eq_false (by decide)
theorem q_1_5 : (nI 1 = (5 : Int32)) = False := eq_false (by decide)
theorem q_1_6 : (nI 1 = (6 : Int32)) = False := eq_false (by decide)
theorem q_1_7 : (nI 1 = (7 : Int32)) = False := eq_false (by decide)
theorem q_1_8 : (nI 1 = (8 : Int32)) = False := eq_false (by decide)
theorem q_1_9 : (nI 1 = (9 : Int32)) = False := eq_false (by decide)
theorem q_1_10 : (nI 1 = (10 : Int32)) = False := eq_false (by decide)
theorem q_1_11 : (nI 1 = (11 : Int32)) = False := eq_false (by decide)
theorem q_1_12 : (nI 1 = (12 : Int32)) = False := eq_false (by decide)
theorem q_1_13 : (nI 1 = (13 : Int32)) = False := eq_false (by decide)
theorem q_1_14 : (nI 1 = (14 : Int32)) = False := eq_false (by decide)
theorem q_2_0 : (nI 2 = (0 : Int32)) = False := eq_false (by decide)
theorem q_2_1 : (nI 2 = (1 : Int32)) = False := eq_false (by decide)
theorem q_2_2 : (nI 2 = (2 : Int32)) = True := eq_true rfl
theorem q_2_3 : (nI 2 = (3 : Int32)) = False := eq_false (by decide)
theorem q_2_4 : (nI 2 = (4 : Int32)) = False := eq_false (by decide)
theorem q_2_5 : (nI 2 = (5 : Int32)) = False := eq_false (by decide)
theorem q_2_6 : (nI 2 = (6 : Int32)) = False := eq_false (by decide)
theorem q_2_7 : (nI 2 = (7 : Int32)) = False := eq_false (by decide)
theorem q_2_8 : (nI 2 = (8 : Int32)) = False := eq_false (by decide)
theorem q_2_9 : (nI 2 = (9 : Int32)) = False := eq_false (by decide)
theorem q_2_10 : (nI 2 = (10 : Int32)) = False := eq_false (by decide)
theorem q_2_11 : (nI 2 = (11 : Int32)) = False := eq_false (by decide)
theorem q_2_12 : (nI 2 = (12 : Int32)) = False := eq_false (by decide)
theorem q_2_13 : (nI 2 = (13 : Int32)) = False := eq_false (by decide)
theorem q_2_14 : (nI 2 = (14 : Int32)) = False := eq_false (by decide)
theorem q_3_0 : (nI 3 = (0 : Int32)) = False := eq_false (by decide)
theorem q_3_1 : (nI 3 = (1 : Int32)) = False := eq_false (by decide)
theorem q_3_2 : (nI 3 = (2 : Int32)) = False := eq_false (by decide)
theorem q_3_3 : (nI 3 = (3 : Int32)) = True := eq_true rfl
theorem q_3_4 : (nI 3 = (4 : Int32)) = False := eq_false (by decide)
theorem q_3_5 : (nI 3 = (5 : Int32)) = False := eq_false (by decide)
theorem q_3_6 : (nI 3 = (6 : Int32)) = False := eq_false (by decide)
theorem q_3_7 : (nI 3 = (7 : Int32)) = False := eq_false (by decide)
theorem q_3_8 : (nI 3 = (8 : Int32)) = False := eq_false (by decide)
theorem q_3_9 : (nI 3 = (9 : Int32)) = False := eq_false (by decide)
theorem q_3_10 : (nI 3 = (10 : Int32)) = False := eq_false (by decide)
theorem q_3_11 : (nI 3 = (11 : Int32)) = False := eq_false (by decide)
theorem q_3_12 : (nI 3 = (12 : Int32)) = False := eq_false (by decide)
theorem q_3_13 : (nI 3 = (13 : Int32)) = False := eq_false (by decide)
theorem q_3_14 : (nI 3 = (14 : Int32)) = False := eq_false (by decide)
theorem q_4_0 : (nI 4 = (0 : Int32)) = False := eq_false (by decide)
theorem q_4_1 : (nI 4 = (1 : Int32)) = False := eq_false (by decide)
theorem q_4_2 : (nI 4 = (2 : Int32)) = False := eq_false (by decide)
theorem q_4_3 : (nI 4 = (3 : Int32)) = False := eq_false (by decide)
theorem q_4_4 : (nI 4 = (4 : Int32)) = True := eq_true rfl
theorem q_4_5 : (nI 4 = (5 : Int32)) = False := eq_false (by decide)
theorem q_4_6 : (nI 4 = (6 : Int32)) = False := eq_false (by decide)
theorem q_4_7 : (nI 4 = (7 : Int32)) = False := eq_false (by decide)
theorem q_4_8 : (nI 4 = (8 : Int32)) = False := eq_false (by decide)
theorem q_4_9 : (nI 4 = (9 : Int32)) = False := eq_false (by decide)
theorem q_4_10 : (nI 4 = (10 : Int32)) = False := eq_false (by decide)
theorem q_4_11 : (nI 4 = (11 : Int32)) = False := eq_false (by decide)
theorem q_4_12 : (nI 4 = (12 : Int32)) = False := eq_false (by decide)
theorem q_4_13 : (nI 4 = (13 : Int32)) = False := eq_false (by decide)
theorem q_4_14 : (nI 4 = (14 : Int32)) = False := eq_false (by decide)
theorem q_5_0 : (nI 5 = (0 : Int32)) = False := eq_false (by decide)
theorem q_5_1 : (nI 5 = (1 : Int32)) = False := eq_false (by decide)
theorem q_5_2 : (nI 5 = (2 : Int32)) = False := eq_false (by decide)
theorem q_5_3 : (nI 5 = (3 : Int32)) = False := eq_false (by decide)
theorem q_5_4 : (nI 5 = (4 : Int32)) = False := eq_false (by decide)
theorem q_5_5 : (nI 5 = (5 : Int32)) = True := eq_true rfl
theorem q_5_6 : (nI 5 = (6 : Int32)) = False := eq_false (by decide)
theorem q_5_7 : (nI 5 = (7 : Int32)) = False := eq_false (by decide)
theorem q_5_8 : (nI 5 = (8 : Int32)) = False := eq_false (by decide)
theorem q_5_9 : (nI 5 = (9 : Int32)) = False := eq_false (by decide)
theorem q_5_10 : (nI 5 = (10 : Int32)) = False := eq_false (by decide)
theorem q_5_11 : (nI 5 = (11 : Int32)) = False := eq_false (by decide)
theorem q_5_12 : (nI 5 = (12 : Int32)) = False := eq_false (by decide)
theorem q_5_13 : (nI 5 = (13 : Int32)) = False := eq_false (by decide)
theorem q_5_14 : (nI 5 = (14 : Int32)) = False := eq_false (by decide)
theorem q_6_0 : (nI 6 = (0 : Int32)) = False := eq_false (by decide)
theorem q_6_1 : (nI 6 = (1 : Int32)) = False := eq_false (by decide)
theorem q_6_2 : (nI 6 = (2 : Int32)) = False := eq_false (by decide)
theorem q_6_3 : (nI 6 = (3 : Int32)) = False := eq_false (by decide)
theorem q_6_4 : (nI 6 = (4 : Int32)) = False := eq_false (by decide)
theorem q_6_5 : (nI 6 = (5 : Int32)) = False := eq_false (by decide)
theorem q_6_6 : (nI 6 = (6 : Int32)) = True := eq_true rfl
theorem q_6_7 : (nI 6 = (7 : Int32)) = False := eq_false (by decide)
theorem q_6_8 : (nI 6 = (8 : Int32)) = False := eq_false (by decide)
theorem q_6_9 : (nI 6 = (9 : Int32)) = False := eq_false (by decide)
theorem q_6_10 : (nI 6 = (10 : Int32)) = False := eq_false (by decide)
theorem q_6_11 : (nI 6 = (11 : Int32)) = False := eq_false (by decide)
theorem q_6_12 : (nI 6 = (12 : Int32)) = False := eq_false (by decide)
theorem q_6_13 : (nI 6 = (13 : Int32)) = False := eq_false (by decide)
theorem q_6_14 : (nI 6 = (14 : Int32)) = False := eq_false (by decide)
theorem q_7_0 : (nI 7 = (0 : Int32)) = False := eq_false (by decide)
theorem q_7_1 : (nI 7 = (1 : Int32)) = False := eq_false (by decide)
theorem q_7_2 : (nI 7 = (2 : Int32)) = False := eq_false (by decide)
theorem q_7_3 : (nI 7 = (3 : Int32)) = False := eq_false (by decide)
theorem q_7_4 : (nI 7 = (4 : Int32)) = False := eq_false (by decide)
theorem q_7_5 : (nI 7 = (5 : Int32)) = False := eq_false (by decide)
theorem q_7_6 : (nI 7 = (6 : Int32)) = False := eq_false (by decide)
theorem q_7_7 : (nI 7 = (7 : Int32)) = True := eq_true rfl
theorem q_7_8 : (nI 7 = (8 : Int32)) = False := eq_false (by decide)
theorem q_7_9 : (nI 7 = (9 : Int32)) = False := eq_false (by decide)
theorem q_7_10 : (nI 7 = (10 : Int32)) = False := eq_false (by decide)
theorem q_7_11 : (nI 7 = (11 : Int32)) = False := eq_false (by decide)
theorem q_7_12 : (nI 7 = (12 : Int32)) = False := eq_false (by decide)
theorem q_7_13 : (nI 7 = (13 : Int32)) = False := eq_false (by decide)
theorem q_7_14 : (nI 7 = (14 : Int32)) = False := eq_false (by decide)
theorem q_8_0 : (nI 8 = (0 : Int32)) = False := eq_false (by decide)
theorem q_8_1 : (nI 8 = (1 : Int32)) = False := eq_false (by decide)
theorem q_8_2 : (nI 8 = (2 : Int32)) = False := eq_false (by decide)
theorem q_8_3 : (nI 8 = (3 : Int32)) = False := eq_false (by decide)
theorem q_8_4 : (nI 8 = (4 : Int32)) = False := eq_false (by decide)
theorem q_8_5 : (nI 8 = (5 : Int32)) = False := eq_false (by decide)
theorem q_8_6 : (nI 8 = (6 : Int32)) = False := eq_false (by decide)
theorem q_8_7 : (nI 8 = (7 : Int32)) = False := eq_false (by decide)
theorem q_8_8 : (nI 8 = (8 : Int32)) = True := eq_true rfl
theorem q_8_9 : (nI 8 = (9 : Int32)) = False := eq_false (by decide)
theorem q_8_10 : (nI 8 = (10 : Int32)) = False := eq_false (by decide)
theorem q_8_11 : (nI 8 = (11 : Int32)) = False := eq_false (by decide)
theorem q_8_12 : (nI 8 = (12 : Int32)) = False := eq_false (by decide)
theorem q_8_13 : (nI 8 = (13 : Int32)) = False := eq_false (by decide)
theorem q_8_14 : (nI 8 = (14 : Int32)) = False := eq_false (by decide)
theorem q_9_0 : (nI 9 = (0 : Int32)) = False := eq_false (by decide)
theorem q_9_1 : (nI 9 = (1 : Int32)) = False := eq_false (by decide)
theorem q_9_2 : (nI 9 = (2 : Int32)) = False := eq_false (by decide)
theorem q_9_3 : (nI 9 = (3 : Int32)) = False := eq_false (by decide)
theorem q_9_4 : (nI 9 = (4 : Int32)) = False := eq_false (by decide)
theorem q_9_5 : (nI 9 = (5 : Int32)) = False := eq_false (by decide)
theorem q_9_6 : (nI 9 = (6 : Int32)) = False := eq_false (by decide)
theorem q_9_7 : (nI 9 = (7 : Int32)) = False := eq_false (by decide)
theorem q_9_8 : (nI 9 = (8 : Int32)) = False := eq_false (by decide)
theorem q_9_9 : (nI 9 = (9 : Int32)) = True := eq_true rfl
theorem q_9_10 : (nI 9 = (10 : Int32)) = False := eq_false (by decide)
theorem q_9_11 : (nI 9 = (11 : Int32)) = False := eq_false (by decide)
theorem q_9_12 : (nI 9 = (12 : Int32)) = False := eq_false (by decide)
theorem q_9_13 : (nI 9 = (13 : Int32)) = False := eq_false (by decide)
theorem q_9_14 : (nI 9 = (14 : Int32)) = False := eq_false (by decide)
theorem q_10_0 : (nI 10 = (0 : Int32)) = False := eq_false (by decide)
theorem q_10_1 : (nI 10 = (1 : Int32)) = False := eq_false (by decide)
theorem q_10_2 : (nI 10 = (2 : Int32)) = False := eq_false (by decide)
theorem q_10_3 : (nI 10 = (3 : Int32)) = False := eq_false (by decide)
theorem q_10_4 : (nI 10 = (4 : Int32)) = False := eq_false (by decide)
theorem q_10_5 : (nI 10 = (5 : Int32)) = False := eq_false (by decide)
theorem q_10_6 : (nI 10 = (6 : Int32)) = False := eq_false (by decide)
theorem q_10_7 : (nI 10 = (7 : Int32)) = False := eq_false (by decide)
theorem q_10_8 : (nI 10 = (8 : Int32)) = False := eq_false (by decide)
theorem q_10_9 : (nI 10 = (9 : Int32)) = False := eq_false (by decide)
theorem q_10_10 : (nI 10 = (10 : Int32)) = True := eq_true rfl
theorem q_10_11 : (nI 10 = (11 : Int32)) = False := eq_false (by decide)
theorem q_10_12 : (nI 10 = (12 : Int32)) = False := eq_false (by decide)
theorem q_10_13 : (nI 10 = (13 : Int32)) = False := eq_false (by decide)
theorem q_10_14 : (nI 10 = (14 : Int32)) = False := eq_false (by decide)
theorem q_11_0 : (nI 11 = (0 : Int32)) = False := eq_false (by decide)
theorem q_11_1 : (nI 11 = (1 : Int32)) = False := eq_false (by decide)
theorem q_11_2 : (nI 11 = (2 : Int32)) = False := eq_false (by decide)
theorem q_11_3 : (nI 11 = (3 : Int32)) = False := eq_false (by decide)
theorem q_11_4 : (nI 11 = (4 : Int32)) = False := eq_false (by decide)
theorem q_11_5 : (nI 11 = (5 : Int32)) = False := eq_false (by decide)
theorem q_11_6 : (nI 11 = (6 : Int32)) = False := eq_false (by decide)
theorem q_11_7 : (nI 11 = (7 : Int32)) = False := eq_false (by decide)
theorem q_11_8 : (nI 11 = (8 : Int32)) = False := eq_false (by decide)
theorem q_11_9 : (nI 11 = (9 : Int32)) = False := eq_false (by decide)
theorem q_11_10 : (nI 11 = (10 : Int32)) = False := eq_false (by decide)
theorem q_11_11 : (nI 11 = (11 : Int32)) = True := eq_true rfl
theorem q_11_12 : (nI 11 = (12 : Int32)) = False := eq_false (by decide)
theorem q_11_13 : (nI 11 = (13 : Int32)) = False := eq_false (by decide)
theorem q_11_14 : (nI 11 = (14 : Int32)) = False := eq_false (by decide)
theorem q_12_0 : (nI 12 = (0 : Int32)) = False := eq_false (by decide)
theorem q_12_1 : (nI 12 = (1 : Int32)) = False := eq_false (by decide)
theorem q_12_2 : (nI 12 = (2 : Int32)) = False := eq_false (by decide)
theorem q_12_3 : (nI 12 = (3 : Int32)) = False := eq_false (by decide)
theorem q_12_4 : (nI 12 = (4 : Int32)) = False := eq_false (by decide)
theorem q_12_5 : (nI 12 = (5 : Int32)) = False := eq_false (by decide)
theorem q_12_6 : (nI 12 = (6 : Int32)) = False := eq_false (by decide)
theorem q_12_7 : (nI 12 = (7 : Int32)) = False := eq_false (by decide)
theorem q_12_8 : (nI 12 = (8 : Int32)) = False := eq_false (by decide)
theorem q_12_9 : (nI 12 = (9 : Int32)) = False := eq_false (by decide)
theorem q_12_10 : (nI 12 = (10 : Int32)) = False := eq_false (by decide)
theorem q_12_11 : (nI 12 = (11 : Int32)) = False := eq_false (by decide)
theorem q_12_12 : (nI 12 = (12 : Int32)) = True := eq_true rfl
theorem q_12_13 : (nI 12 = (13 : Int32)) = False := eq_false (by decide)
theorem q_12_14 : (nI 12 = (14 : Int32)) = False := eq_false (by decide)
theorem q_13_0 : (nI 13 = (0 : Int32)) = False := eq_false (by decide)
theorem q_13_1 : (nI 13 = (1 : Int32)) = False := eq_false (by decide)
theorem q_13_2 : (nI 13 = (2 : Int32)) = False := eq_false (by decide)
theorem q_13_3 : (nI 13 = (3 : Int32)) = False := eq_false (by decide)
theorem q_13_4 : (nI 13 = (4 : Int32)) = False := eq_false (by decide)
theorem q_13_5 : (nI 13 = (5 : Int32)) = False := eq_false (by decide)
theorem q_13_6 : (nI 13 = (6 : Int32)) = False := eq_false (by decide)
theorem q_13_7 : (nI 13 = (7 : Int32)) = False := eq_false (by decide)
theorem q_13_8 : (nI 13 = (8 : Int32)) = False := eq_false (by decide)
theorem q_13_9 : (nI 13 = (9 : Int32)) = False := eq_false (by decide)
theorem q_13_10 : (nI 13 = (10 : Int32)) = False := eq_false (by decide)
theorem q_13_11 : (nI 13 = (11 : Int32)) = False := eq_false (by decide)
theorem q_13_12 : (nI 13 = (12 : Int32)) = False := eq_false (by decide)
theorem q_13_13 : (nI 13 = (13 : Int32)) = True := eq_true rfl
theorem q_13_14 : (nI 13 = (14 : Int32)) = False := eq_false (by decide)
theorem q_14_0 : (nI 14 = (0 : Int32)) = False := eq_false (by decide)
theorem q_14_1 : (nI 14 = (1 : Int32)) = False := eq_false (by decide)
theorem q_14_2 : (nI 14 = (2 : Int32)) = False := eq_false (by decide)
theorem q_14_3 : (nI 14 = (3 : Int32)) = False := eq_false (by decide)
theorem q_14_4 : (nI 14 = (4 : Int32)) = False := eq_false (by decide)
theorem q_14_5 : (nI 14 = (5 : Int32)) = False := eq_false (by decide)
theorem q_14_6 : (nI 14 = (6 : Int32)) = False := eq_false (by decide)
theorem q_14_7 : (nI 14 = (7 : Int32)) = False := eq_false (by decide)
theorem q_14_8 : (nI 14 = (8 : Int32)) = False := eq_false (by decide)
theorem q_14_9 : (nI 14 = (9 : Int32)) = False := eq_false (by decide)
theorem q_14_10 : (nI 14 = (10 : Int32)) = False := eq_false (by decide)
theorem q_14_11 : (nI 14 = (11 : Int32)) = False := eq_false (by decide)
theorem q_14_12 : (nI 14 = (12 : Int32)) = False := eq_false (by decide)
theorem q_14_13 : (nI 14 = (13 : Int32)) = False := eq_false (by decide)
theorem q_14_14 : (nI 14 = (14 : Int32)) = True := eq_true rfl
theorem X_bF {n f : Nat} {μ : hb_m} (hf : f < 8) : fX0_billOfFlat n (nI f) μ = some (rd μ 237 f + rd μ 238 f, μ) := by
  unfold fX0_billOfFlat
  rw [ib_ok hf (by omega), if_pos rfl, if_pos rfl, cl_ok (by omega)]
theorem Q_flat {n : Nat} {p1 p2 : Int32} {μ ν : hb_m} {ga gb : hb_m} (h : RQ ga gb μ ν) (hn : 2147483648 ≤ n) : Oq ga gb (fX5_flat n p1 p2 μ) (fX6_flat n p1 p2 ν) := by
  obtain ⟨F, D, Y, μ', ν', hi, hr, e1, e2, hR, hr', h1, g1, g2, g3, fx, fm, hk⟩ := Q_open h hn
  have hF8 := hi.1.1
  have hD20 := hi.1.2.1
  unfold fX5_flat fX6_flat
  rcases ix_cases p1 F (by omega) with hp | ⟨f, hf, rfl⟩
  · rw [X_hF_n hr.1.1 hp, M_isF_n hi.2.1.1 (by omega) hp, bi_some, bi_some]
    simp only [e00, if_true]
    exact oq_mk rfl h
  · rw [X_hF_y hr.1.1 (by omega) hf, M_isF_y hi.2.1.1 (by omega) hf, bi_some, bi_some]
    simp only [e10, if_false]
    rw [show (4 : Int32).toNatClampNeg = 4 from rfl, show ib 4 415 = true from by decide, e2, bv_some]
    simp only [if_true]
    rcases ix_cases p2 8 (by omega) with hq | ⟨w, hw, rfl⟩
    · have a0 : ¬ p2 = 0 := ne_of (by omega) hq (show 0 < 8 by omega)
      have a1 : ¬ p2 = 1 := ne_of (by omega) hq (show 1 < 8 by omega)
      have a2 : ¬ p2 = 2 := ne_of (by omega) hq (show 2 < 8 by omega)
      have a3 : ¬ p2 = 3 := ne_of (by omega) hq (show 3 < 8 by omega)
      have a4 : ¬ p2 = 4 := ne_of (by omega) hq (show 4 < 8 by omega)
      have a5 : ¬ p2 = 5 := ne_of (by omega) hq (show 5 < 8 by omega)
      have a6 : ¬ p2 = 6 := ne_of (by omega) hq (show 6 < 8 by omega)
      have a7 : ¬ p2 = 7 := ne_of (by omega) hq (show 7 < 8 by omega)
      simp only [a0, a1, a2, a3, a4, a5, a6, a7, if_false]
      have hR2 : RQ ga gb μ ν' := RQ_q h fX_rf fm (fun _ _ _ _ => rfl) (fun i => by rw [h1])
      by_cases h0 : p2 < 0
      · rw [if_pos h0]; exact oq_mk rfl hR2
      · have h8 : ¬ p2 ≤ 7 := fun q => by
          have := Int32.le_trans (hq.resolve_left h0) q
          exact absurd this (by decide)
        rw [if_neg h0, if_neg h8]; exact oq_mk rfl hR2
    · have hw0 : ¬ nI w < 0 := nI_pos (by omega)
      have hw7 : nI w ≤ 7 := by rw [li7, le_ok (by omega) (by omega)]; omega
      rw [if_neg hw0, if_pos hw7, e1, bv_some]
      obtain ⟨⟨a0, a1, a2, a3⟩, ⟨b0, b1, b2⟩, c1, c2, c3, d1, d2, d3, d4, y1, z1⟩ := hr'
      rcases (show w = 0 ∨ w = 1 ∨ w = 2 ∨ w = 3 ∨ w = 4 ∨ w = 5 ∨ w = 6 ∨ w = 7 by omega) with rfl | rfl | rfl | rfl | rfl | rfl | rfl | rfl
      · simp only [q_0_0, if_true, if_false]
        rw [ib_ok (by omega) (by omega), if_pos rfl, cl_ok (by omega), li0, M_ofFlat (by omega), bi_some, h1]
        exact oq_mk (c1 f hf) hR
      · simp only [q_1_0, q_1_1, if_true, if_false]
        rw [X_bit b2 hD20 (fun d hd => (d1 d hd).1) hn, bi_some, M_bit (by rw [h1]; exact hi.2.1.2.1) hD20 hn, bi_some, h1]
        exact oq_mk rfl hR
      · simp only [q_2_0, q_2_1, q_2_2, if_true, if_false]
        rw [ib_ok (show f < 8 by omega) (by omega), if_pos rfl, if_pos rfl, cl_ok (by omega)]
        exact oq_mk (g2 f (by omega)).1 hR
      · simp only [q_3_0, q_3_1, q_3_2, q_3_3, if_true, if_false]
        rw [ib_ok (show f < 8 by omega) (by omega), if_pos rfl, if_pos rfl, cl_ok (by omega)]
        exact oq_mk (g1 f hf).1 hR
      · simp only [q_4_0, q_4_1, q_4_2, q_4_3, q_4_4, if_true, if_false]
        rw [ib_ok (show f < 8 by omega) (by omega), if_pos rfl, if_pos rfl, cl_ok (by omega)]
        exact oq_mk (g1 f hf).2 hR
      · simp only [q_5_0, q_5_1, q_5_2, q_5_3, q_5_4, q_5_5, if_true, if_false]
        rw [X_bF (by omega), bi_some, ib_ok (show f < 8 by omega) (by omega), if_pos rfl, if_pos rfl, cl_ok (by omega)]
        exact oq_mk (by rw [(g1 f hf).1, (g1 f hf).2]) hR
      · simp only [q_6_0, q_6_1, q_6_2, q_6_3, q_6_4, q_6_5, q_6_6, if_true, if_false]
        rw [ib_ok (by omega) (by omega), if_pos rfl, cl_ok (by omega), show (1 : Int32) = nI 1 from rfl, M_ofFlat (by omega), bi_some, show 7 + 3 * f + 1 = 8 + 3 * f by omega, h1]
        have := c2 f (by omega)
        by_cases h0 : rd ν 1 (8 + 3 * f) = 0
        · rw [if_neg (fun q => q.2 h0)] at this
          rw [if_pos h0]
          exact oq_mk this hR
        · rw [if_pos ⟨hf, h0⟩] at this
          rw [if_neg h0, M_ofFlat (by omega), bi_some, show 7 + 3 * f + 1 = 8 + 3 * f by omega, h1]
          exact oq_mk this hR
      · simp only [q_7_0, q_7_1, q_7_2, q_7_3, q_7_4, q_7_5, q_7_6, q_7_7, if_true, if_false]
        rw [ib_ok (by omega) (by omega), if_pos rfl, cl_ok (by omega), show (2 : Int32) = nI 2 from rfl, M_ofFlat (by omega), bi_some, show 7 + 3 * f + 2 = 9 + 3 * f by omega, h1]
        have := c3 f (by omega)
        rw [if_pos hf] at this
        exact oq_mk this hR
theorem Q_device {n : Nat} {p1 p2 : Int32} {μ ν : hb_m} {ga gb : hb_m} (h : RQ ga gb μ ν) (hn : 2147483648 ≤ n) : Oq ga gb (fX5_device n p1 p2 μ) (fX6_device n p1 p2 ν) := by
  obtain ⟨F, D, Y, hi, hr⟩ := id h.1
  have hF8 := hi.1.1
  have hD20 := hi.1.2.1
  unfold fX5_device fX6_device
  rcases ix_cases p1 D (by omega) with hp | ⟨d, hd, rfl⟩
  · rw [X_hD_n hr.2.1.2.2 hp, M_isD_n hi.2.1.2.1 (by omega) hp, bi_some, bi_some]
    simp only [e00, if_true]
    exact oq_mk rfl h
  · rw [X_hD_y hr.2.1.2.2 (by omega) hd, M_isD_y hi.2.1.2.1 (by omega) hd, bi_some, bi_some]
    simp only [e10, if_false]
    rw [M_in, bi_some]
    rcases ix_cases p2 6 (by omega) with hq | ⟨w, hw, rfl⟩
    · have h5 : ¬ (0 ≤ p2 ∧ p2 ≤ 5) := fun q => by
        rcases hq with z | z
        · exact absurd q.1 (Int32.not_le.mpr z)
        · exact absurd (Int32.le_trans z q.2) (by decide)
      rw [if_neg h5, if_pos (show (0 : Int32) = 0 from rfl)]
      by_cases h0 : p2 < 0
      · rw [if_pos h0]; exact oq_mk rfl h
      · rw [if_neg h0, if_neg (fun q => h5 ⟨Int32.not_lt.mp h0, q⟩)]; exact oq_mk rfl h
    · have h5 : (0 : Int32) ≤ nI w ∧ nI w ≤ 5 := ⟨nI_pos' (by omega), by rw [li5, le_ok (by omega) (by omega)]; omega⟩
      have hw0 : ¬ nI w < 0 := nI_pos (by omega)
      rw [if_pos h5, if_neg hw0, if_pos h5.2]
      simp only [e10, if_false]
      obtain ⟨μ', e1, s1, g1⟩ := X_cU hx_H0 hi hr hn
      have hR : RQ ga gb μ' ν := RQ_q h (fun k i hk => (s1 k (by simp; omega)).1 i) fM_rf (fun k i hk hk2 => (s1 k (by simp; omega)).1 i) (fun _ => rfl)
      obtain ⟨⟨a0, a1, a2, a3⟩, ⟨b0, b1, b2⟩, c1, c2, c3, d1, d2, d3, d4, y1, z1⟩ := id hr
      have x2 := d2 d (by omega)
      have x3 := d3 d (by omega)
      have x4 := d4 d (by omega)
      rw [if_pos hd] at x2 x3 x4
      rcases (show w = 0 ∨ w = 1 ∨ w = 2 ∨ w = 3 ∨ w = 4 ∨ w = 5 by omega) with rfl | rfl | rfl | rfl | rfl | rfl
      · simp only [q_0_0, q_0_1, q_0_2, q_0_3, q_0_4, q_0_5, if_true, if_false]
        rw [ib_ok (by omega) (by omega), if_pos rfl, cl_ok (by omega), M_of (by omega), bi_some, show 31 + 5 * d + 0 = 31 + 5 * d by omega]
        exact oq_mk (d1 d hd).1 h
      · simp only [q_1_0, q_1_1, q_1_2, q_1_3, q_1_4, q_1_5, if_true, if_false]
        rw [ib_ok (by omega) (by omega), if_pos rfl, cl_ok (by omega), M_of (by omega), bi_some, show 31 + 5 * d + 1 = 32 + 5 * d by omega]
        exact oq_mk (d1 d hd).2 h
      · simp only [q_2_0, q_2_1, q_2_2, q_2_3, q_2_4, q_2_5, if_true, if_false]
        rw [ib_ok (by omega) (by omega), if_pos rfl, cl_ok (by omega), M_of (by omega), bi_some, show 31 + 5 * d + 2 = 33 + 5 * d by omega]
        exact oq_mk x2 h
      · simp only [q_3_0, q_3_1, q_3_2, q_3_3, q_3_4, q_3_5, if_true, if_false]
        rw [ib_ok (by omega) (by omega), if_pos rfl, cl_ok (by omega), M_of (by omega), bi_some, show 31 + 5 * d + 3 = 34 + 5 * d by omega]
        exact oq_mk x3 h
      · simp only [q_4_0, q_4_1, q_4_2, q_4_3, q_4_4, q_4_5, if_true, if_false]
        rw [ib_ok (by omega) (by omega), if_pos rfl, cl_ok (by omega), M_of (by omega), bi_some, show 31 + 5 * d + 4 = 35 + 5 * d by omega]
        obtain ⟨-, -, -, -, -, -, -, -, c4, -⟩ := id hi
        rcases c4 d hd with z | z
        · rw [x4, z, if_pos rfl]; exact oq_mk rfl h
        · rw [x4, z, if_neg (by decide)]; exact oq_mk rfl h
      · simp only [q_5_0, q_5_1, q_5_2, q_5_3, q_5_4, q_5_5, if_true, if_false]
        rw [e1, bv_some, ib_ok (by omega) (by omega), if_pos rfl, cl_ok (by omega), M_uN hi.2.1.2.1 hD20 hi.2.1.2.2 hi.1.2.2 (by omega) hn, bi_some]
        exact oq_mk (g1 d hd) hR

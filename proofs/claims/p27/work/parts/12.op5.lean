/-! BOTH SIDES: draft, bill, units -/
theorem M_inI_y {n E d : Nat} {ν : hb_m} (hE : E ≤ 20) (hd : d < E) : fX6_in n (nI d) 0 (nI E - 1) ν = some (1, ν) := by
  have c : 0 ≤ nI d ∧ nI d ≤ nI E - 1 := by rw [isI_eq (by omega)]; exact isI_y hd (by omega)
  rw [M_in, if_pos c]
theorem M_inI_n {n E : Nat} {p : Int32} {ν : hb_m} (hE : E ≤ 20) (hd : p < 0 ∨ nI E ≤ p) : fX6_in n p 0 (nI E - 1) ν = some (0, ν) := by
  have c : ¬ (0 ≤ p ∧ p ≤ nI E - 1) := by rw [isI_eq (by omega)]; exact isI_n hd
  rw [M_in, if_neg c]
theorem Q_draft {n : Nat} {p1 p2 : Int32} {μ ν : hb_m} {ga gb : hb_m} (h : RQ ga gb μ ν) (hn : 2147483648 ≤ n) : Oq ga gb (fX5_draft n p1 p2 μ) (fX6_draft n p1 p2 ν) := by
  obtain ⟨F, D, Y, μ', ν', hi, hr, e1, e2, hR, hr', h1, g1, g2, g3, fx, fm, hk⟩ := Q_open h hn
  have hF8 := hi.1.1
  unfold fX5_draft fX6_draft
  rcases ix_cases p1 F (by omega) with hp | ⟨f, hf, rfl⟩
  · rw [X_hF_n hr.1.1 hp, M_isF_n hi.2.1.1 (by omega) hp, bi_some, bi_some]
    simp only [e00, if_true]
    exact oq_mk rfl h
  · rw [X_hF_y hr.1.1 (by omega) hf, M_isF_y hi.2.1.1 (by omega) hf, bi_some, bi_some]
    simp only [e10, if_false]
    obtain ⟨w1, w2, w3, w4⟩ := op_mo hi hr'
    obtain ⟨v1, v2, v3, v4⟩ := op_mo hi hr
    obtain ⟨μ2, e3, s3, g4⟩ := X_spl (n := n) (B := 0) (C := 0 + 8) (F := F) (mo := fun f => (rd ν 1 (8 + 3 * f)).toNatClampNeg) (part := fun f => rd ν 1 (9 + 3 * f)) (μ := μ') (by omega) (by omega) hr'.1.1 hF8 w1 w2 w3 hn
    have hR2 : RQ ga gb μ2 ν' := RQ_q hR (fun k i hk => (s3 k (by simp; omega)).1 i) fM_rf (fun k i hk _ => (s3 k (by simp; omega)).1 i) (fun _ => rfl)
    have x1 : 7 + 3 * f + 1 = 8 + 3 * f := by omega
    have x2 : 7 + 3 * f + 2 = 9 + 3 * f := by omega
    have d0 : 2 * f / 2 = f := by omega
    have d1 : (2 * f + 1) / 2 = f := by omega
    have m0 : 2 * f % 2 = 0 := by omega
    have m1 : (2 * f + 1) % 2 = 1 := by omega
    have hm : ∀ s : Int32, fX6_tenantOf n (nI f) s (rd ν 1 (8 + 3 * f)) (rd ν 1 (9 + 3 * f)) ν' = some (p_ten (rd ν' 9 f) (rd ν' 10 f) (rd ν 1 (8 + 3 * f)).toNatClampNeg (rd ν 1 (9 + 3 * f)) s, ν') := by
      intro s
      have := M_ten (n := n) (f := f) (mo := (rd ν 1 (8 + 3 * f)).toNatClampNeg) (part := rd ν 1 (9 + 3 * f)) (s := s) (μ := ν') (by omega) (by have := w2 f hf; omega) hn
      rw [← w4 f hf] at this
      exact this
    by_cases h2 : p2 = 0
    · subst h2
      simp only [if_true]
      rw [show (4 : Int32).toNatClampNeg = 4 from rfl, show ib 4 415 = true from by decide, if_pos rfl, e1, e2, bv_some, bv_some, e3, bv_some, X_ten0, bi_some, ib_ok (by omega) (by omega), if_pos rfl, cl_ok (by omega), show (1 : Int32) = nI 1 from rfl, M_ofFlat (by omega), bi_some, x1, show (2 : Int32) = nI 2 from rfl, M_ofFlat (by omega), bi_some, x2, h1, hm, bi_some, g4 _ (by omega), if_pos (by omega)]
      refine oq_mk ?_ hR2
      unfold p_bil
      rw [d0, m0, (g1 f hf).1, (g1 f hf).2]
      rfl
    · simp only [h2, if_false]
      rw [X_hasMove (by omega), bi_some, v1 f hf, show (1 : Int32) = nI 1 from rfl, M_ofFlat (by omega), bi_some, x1]
      by_cases z : (rd ν 1 (8 + 3 * f)).toNatClampNeg = 0
      · have z2 : rd ν 1 (8 + 3 * f) = 0 := by rw [w4 f hf, z]; rfl
        rw [if_pos z, if_pos z2]
        simp only [if_true, e00]
        exact oq_mk rfl h
      · have z2 : ¬ rd ν 1 (8 + 3 * f) = 0 := fun q => z (by rw [q]; rfl)
        have hne : ¬ nI (rd ν 1 (8 + 3 * f)).toNatClampNeg = -5 := fun q => by
          rw [neg_ne (by have := w2 f hf; omega)] at q
          exact q
        rw [if_neg z, if_neg z2, if_neg hne, if_neg (show ¬ nI 1 = 0 by decide)]
        rw [show (4 : Int32).toNatClampNeg = 4 from rfl, show ib 4 415 = true from by decide, if_pos rfl, e1, e2, bv_some, bv_some, e3, bv_some, X_tenz h2, bi_some, ib_ok (by omega) (by omega), if_pos rfl, cl_ok (by omega), M_ofFlat (by omega), bi_some, x1, show (2 : Int32) = nI 2 from rfl, M_ofFlat (by omega), bi_some, x2, h1, hm, bi_some, g4 _ (by omega), if_pos (by omega)]
        refine oq_mk ?_ hR2
        unfold p_bil p_ten
        rw [d1, m1, (g1 f hf).1, (g1 f hf).2, if_neg (show ¬ nI 1 = 0 by decide), if_neg h2]
theorem Q_bill {n : Nat} {p1 p2 p3 p4 : Int32} {μ ν : hb_m} {ga gb : hb_m} (h : RQ ga gb μ ν) : Oq ga gb (fX5_bill n p1 p2 p3 p4 μ) (fX6_bill n p1 p2 p3 p4 ν) := by
  obtain ⟨F, D, Y, hi, hr⟩ := id h.1
  have hF8 := hi.1.1
  have hY4 := hi.1.2.2
  obtain ⟨⟨a0, a1, a2, a3⟩, ⟨b0, b1, b2⟩, c1, c2, c3, d1, d2, d3, d4, y1, z1⟩ := hr
  unfold fX5_bill fX6_bill
  rcases ix_cases p1 Y (by omega) with hp | ⟨y, hy, rfl⟩
  · rw [X_cY_n a3 hp, M_isC_n hi.2.1.2.2 (by omega) hp, br_none, bi_some]
    simp only [e00, if_true]
    exact oq_mk rfl h
  · rw [X_cY_y a3 hY4 hy, M_isC_y hi.2.1.2.2 (by omega) hy, br_some, bi_some]
    simp only [e10, if_false]
    rcases ix_cases p2 F (by omega) with hp | ⟨f, hf, rfl⟩
    · rw [X_hF_n a0 hp, M_isF_n hi.2.1.1 (by omega) hp, bi_some, bi_some]
      simp only [e00, if_true]
      exact oq_mk rfl h
    · rw [X_hF_y a0 (by omega) hf, M_isF_y hi.2.1.1 (by omega) hf, bi_some, bi_some]
      simp only [e10, if_false]
      obtain ⟨k0, k1, k2, k3, k4, k5, k6, k7⟩ := y1 y hy
      have k60 : rd μ (0 + 14 + 6 * y + 4) (2 * f) = rd ν 1 (170 + 71 * y + 2 * f) := (k6 _ (by omega)).trans (if_pos (by omega))
      have k61 : rd μ (0 + 14 + 6 * y + 4) (2 * f + 1) = rd ν 1 (170 + 71 * y + (2 * f + 1)) := (k6 _ (by omega)).trans (if_pos (by omega))
      have k70 : rd μ (0 + 14 + 6 * y + 5) (2 * f) = rd ν 1 (186 + 71 * y + 2 * f) := k7 _ (by omega)
      have k71 : rd μ (0 + 14 + 6 * y + 5) (2 * f + 1) = rd ν 1 (186 + 71 * y + (2 * f + 1)) := k7 _ (by omega)
      have x0 : 131 + 71 * y + (39 + (2 * f + 0)) = 170 + 71 * y + 2 * f := by omega
      have x1 : 131 + 71 * y + (55 + (2 * f + 0)) = 186 + 71 * y + 2 * f := by omega
      have x2 : 131 + 71 * y + (39 + (2 * f + 1)) = 170 + 71 * y + (2 * f + 1) := by omega
      have x3 : 131 + 71 * y + (55 + (2 * f + 1)) = 186 + 71 * y + (2 * f + 1) := by omega
      have e0 : (2 : Int32) * nI f + 0 = nI (2 * f + 0) := by rw [li2, pk_mul, li0, nI_add]
      have e1 : (2 : Int32) * nI f + 1 = nI (2 * f + 1) := by rw [li2, pk_mul, li1, nI_add]
      have o0 : fX6_old n (nI y) (39 + (2 * nI f + 0)) ν = some (nI (170 + 71 * y + 2 * f), ν) := by rw [e0, li39, nI_add, M_old, x0]
      have o1 : fX6_old n (nI y) (55 + (2 * nI f + 0)) ν = some (nI (186 + 71 * y + 2 * f), ν) := by rw [e0, li55, nI_add, M_old, x1]
      have o2 : fX6_old n (nI y) (39 + (2 * nI f + 1)) ν = some (nI (170 + 71 * y + (2 * f + 1)), ν) := by rw [e1, li39, nI_add, M_old, x2]
      have o3 : fX6_old n (nI y) (55 + (2 * nI f + 1)) ν = some (nI (186 + 71 * y + (2 * f + 1)), ν) := by rw [e1, li55, nI_add, M_old, x3]
      by_cases h3 : p3 = 0
      · subst h3
        simp only [if_true]
        rw [X_ten0, bi_some]
        by_cases h4 : p4 = 0
        · simp only [h4, if_true]
          rw [ib_ok (show 2 * f < 16 by omega) (by omega), if_pos rfl, cl_ok (by omega), k60, o0, bi_some, ib_ok (by omega) (by omega), if_pos rfl, cl_ok (by omega)]
          exact oq_mk rfl h
        · simp only [h4, if_false]
          rw [ib_ok (show 2 * f < 16 by omega) (by omega), if_pos rfl, cl_ok (by omega), k70, o1, bi_some, ib_ok (by omega) (by omega), if_pos rfl, cl_ok (by omega)]
          exact oq_mk rfl h
      · simp only [h3, if_false]
        rw [X_hasMove (by omega), bi_some, k4 f hf, li23, li2, pk_mul, nI_add, M_old, bi_some, ib_ok (by omega) (by omega), if_pos rfl, cl_ok (by omega), show 131 + 71 * y + (23 + 2 * f) = 154 + 71 * y + 2 * f by omega]
        by_cases z : rd ν 1 (154 + 71 * y + 2 * f) = 0
        · rw [if_pos z, if_pos z]
          simp only [if_true, e00]
          exact oq_mk rfl h
        · have hne : ¬ rd ν 1 (154 + 71 * y + 2 * f) = -5 := fun q => by
            obtain ⟨-, -, -, -, -, -, -, -, -, -, q2⟩ := id hi
            obtain ⟨e, -, hl⟩ := q2 y f hy hf
            rw [e, neg_ne (by omega)] at q
            exact q
          rw [if_neg z, if_neg z, if_neg hne]
          simp only [e10, if_false]
          rw [X_tenz h3, bi_some]
          rw [li2, pk_mul] at o2 o3
          by_cases h4 : p4 = 0
          · simp only [h4, if_true]
            rw [ib_ok (show 2 * f + 1 < 16 by omega) (by omega), if_pos rfl, cl_ok (by omega), k61, o2, bi_some, ib_ok (by omega) (by omega), if_pos rfl, cl_ok (by omega)]
            exact oq_mk rfl h
          · simp only [h4, if_false]
            rw [ib_ok (show 2 * f + 1 < 16 by omega) (by omega), if_pos rfl, cl_ok (by omega), k71, o3, bi_some, ib_ok (by omega) (by omega), if_pos rfl, cl_ok (by omega)]
            exact oq_mk rfl h
theorem Q_units {n : Nat} {p1 p2 : Int32} {μ ν : hb_m} {ga gb : hb_m} (h : RQ ga gb μ ν) : Oq ga gb (fX5_units n p1 p2 μ) (fX6_units n p1 p2 ν) := by
  obtain ⟨F, D, Y, hi, hr⟩ := id h.1
  have hD20 := hi.1.2.1
  have hY4 := hi.1.2.2
  obtain ⟨⟨a0, a1, a2, a3⟩, ⟨b0, b1, b2⟩, c1, c2, c3, d1, d2, d3, d4, y1, z1⟩ := hr
  unfold fX5_units fX6_units
  rcases ix_cases p1 Y (by omega) with hp | ⟨y, hy, rfl⟩
  · rw [X_cY_n a3 hp, M_isC_n hi.2.1.2.2 (by omega) hp, br_none, bi_some]
    simp only [e00, if_true]
    exact oq_mk rfl h
  · rw [X_cY_y a3 hY4 hy, M_isC_y hi.2.1.2.2 (by omega) hy, br_some, bi_some]
    simp only [e10, if_false]
    obtain ⟨k0, k1, k2, k3, k4, k5, k6, k7⟩ := y1 y hy
    have hE : ∃ E, E ≤ D ∧ rd ν 1 (133 + 71 * y) = nI E := by
      obtain ⟨-, -, -, -, -, -, -, -, -, q1, -⟩ := id hi
      obtain ⟨E, e1, e2, -⟩ := q1 y hy
      exact ⟨E, e1, e2⟩
    obtain ⟨E, hED, eE⟩ := hE
    rw [eE] at k2 k3
    rw [li2, M_old, bi_some, ib_ok (by omega) (by omega), if_pos rfl, cl_ok (by omega), show 131 + 71 * y + 2 = 133 + 71 * y by omega, eE]
    rcases ix_cases p2 E (by omega) with hp | ⟨d, hd, rfl⟩
    · rw [X_hD_n k2 hp, M_inI_n (by omega) hp, bi_some, bi_some]
      simp only [e00, if_true]
      exact oq_mk rfl h
    · rw [X_hD_y k2 (by omega) hd, M_inI_y (by omega) hd, bi_some, bi_some]
      simp only [e10, if_false]
      rw [ib_ok (by omega) (by omega), if_pos rfl, cl_ok (by omega), k3 d (by omega) (by rw [lt_ok (by omega) (by omega)]; exact hd), li3, nI_add, M_old, bi_some, ib_ok (by omega) (by omega), if_pos rfl, cl_ok (by omega), show 131 + 71 * y + (3 + d) = 134 + 71 * y + d by omega]
      exact oq_mk rfl h

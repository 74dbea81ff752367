/-! BOTH SIDES: acts (6): close -/
theorem X_cW {n Y : Nat} {μ : hb_m} (hY : rd μ 0 10 = nI Y) (hY4 : Y < 4) (hn : 2147483648 ≤ n) : ∃ μ', fX2_closeWith n 0 239 μ = some (nI Y, μ') ∧ rd μ' 0 10 = nI (Y + 1) ∧ rd μ' 8 0 = 0 ∧ (∀ i, i < 8 → rd μ' 9 i = -5) ∧ (∀ i, i < 8 → rd μ' 10 i = -5) ∧ (∀ i, i < 20 → rd μ' 4 i = rd μ 5 i) ∧ (∀ q i, vY q i → q ≠ 4 → rd μ' (14 + 6 * Y + q) i = rd μ (8 + q) i) ∧ (∀ k, k < 16 → rd μ' (14 + 6 * Y + 4) k = rd μ 239 k) ∧ (∀ k i, k ≠ 4 → (k ≠ 0 ∨ i ≠ 10) → (k ≠ 8 ∨ i ≠ 0) → k ≠ 9 → k ≠ 10 → (k < 14 + 6 * Y ∨ 20 + 6 * Y ≤ k) → rd μ' k i = rd μ k i) := by
  unfold fX2_closeWith fX4_startAnew
  obtain ⟨m1, e1, f1, g1, -⟩ := X_cpY (n := n) (Y := 0 + 14 + 6 * Y) (Z := 0 + 8) (μ := μ) (by omega)
  rw [hY, ib_ok hY4 (by omega), if_pos rfl, cl_ok (by omega), e1, bv_some, cb_int (by decide) (by decide), if_pos rfl, li1, nI_add]
  generalize hm2 : wr (wr (cpA m1 239 (0 + 14 + 6 * Y + 4) 16) 0 10 (nI (Y + 1))) (0 + 8) 0 0 = m2
  have g2 : ∀ k i, rd m2 k i = if k = 8 ∧ i = 0 then 0 else if k = 0 ∧ i = 10 then nI (Y + 1) else if k = 14 + 6 * Y + 4 ∧ i < 16 then rd m1 239 i else rd m1 k i := fun k i => by
    rw [← hm2, rd_wr, rd_wr, rd_cpA, show 0 + 14 + 6 * Y + 4 = 14 + 6 * Y + 4 by omega]
  obtain ⟨m3, e3, g3, -⟩ := X_fill (n := n) (a := 0 + 8 + 1) (L := 8) (v := -5) (μ := m2) rfl (by omega) hn
  obtain ⟨m4, e4, g4, -⟩ := X_fill (n := n) (a := 0 + 8 + 2) (L := 8) (v := -5) (μ := m3) rfl (by omega) hn
  rw [e3, bv_some, e4, bv_some, bv_some, cb_int (by decide) (by decide), if_pos rfl]
  have o4 : ∀ k i, k ≠ 9 → k ≠ 10 → rd m4 k i = rd m2 k i := fun k i h9 h10 => by rw [g4, if_neg (by omega), g3, if_neg (by omega)]
  refine ⟨_, rfl, ?_, ?_, fun i hi => ?_, fun i hi => ?_, fun i hi => ?_, fun q i hq hne => ?_, fun k hk => ?_, fun k i k1 k2 k3 k4 k5 k6 => ?_⟩
  · rw [rd_cpA, if_neg (by omega), o4 _ _ (by omega) (by omega), g2, if_neg (by omega), if_pos ⟨rfl, rfl⟩]
  · rw [rd_cpA, if_neg (by omega), o4 _ _ (by omega) (by omega), g2, if_pos ⟨rfl, rfl⟩]
  · rw [rd_cpA, if_neg (by omega), g4, if_neg (by omega), g3, if_pos ⟨rfl, hi⟩]
  · rw [rd_cpA, if_neg (by omega), g4, if_pos ⟨rfl, hi⟩]
  · rw [rd_cpA, if_pos ⟨rfl, hi⟩, o4 _ _ (by omega) (by omega), g2, if_neg (by omega), if_neg (by omega), if_neg (by omega), f1 _ _ (by omega)]
  · rw [rd_cpA, if_neg (by omega), o4 _ _ (by omega) (by omega), g2, if_neg (by omega), if_neg (by omega), if_neg (by omega)]
    have := g1 q i hq
    rw [show 0 + 14 + 6 * Y + q = 14 + 6 * Y + q by omega, show 0 + 8 + q = 8 + q by omega] at this
    exact this
  · rw [rd_cpA, if_neg (by omega), o4 _ _ (by omega) (by omega), g2, if_neg (by omega), if_neg (by omega), if_pos ⟨rfl, hk⟩, f1 _ _ (by omega)]
  · rw [rd_cpA, if_neg (by omega), o4 _ _ k4 k5, g2, if_neg (by omega), if_neg (by omega), if_neg (by omega), f1 _ _ (by omega)]
theorem A_close {n c : Nat} {μ ν : hb_m} (h : RR μ ν) (hn : 2147483648 ≤ n) : Ac n c μ (fX5_close n μ) (fX6_close n ν) := by
  obtain ⟨F, D, Y, hi, hr⟩ := id h.1
  have hF8 := hi.1.1
  have hD20 := hi.1.2.1
  have hY4 := hi.1.2.2
  obtain ⟨-, ⟨i0, i1, i2⟩, iF, iD, iY⟩ := Inv_get hi
  have a0 := hr.1.1
  have a3 := hr.1.2.2.2
  unfold fX5_close fX6_close
  rw [a0, a3, show (0 : Int32).toNatClampNeg = 0 from rfl, show (1 : Int32).toNatClampNeg = 1 from rfl, show (2 : Int32).toNatClampNeg = 2 from rfl, show (3 : Int32).toNatClampNeg = 3 from rfl, show (4 : Int32).toNatClampNeg = 4 from rfl, show ib 0 415 = true from by decide, show ib 1 415 = true from by decide, show ib 2 415 = true from by decide, show ib 3 415 = true from by decide, show ib 4 415 = true from by decide, i0, i2]
  simp only [if_true]
  by_cases hY : Y = 4
  · subst hY
    rw [if_neg (show ¬ nI 4 < (4 : Int32) by decide), if_pos (show nI 4 = (4 : Int32) from rfl)]
    exact ac_no rfl h (by decide)
  have hYlt : Y < 4 := by omega
  rw [if_pos (show nI Y < (4 : Int32) by rw [li4, lt_ok (by omega) (by omega)]; omega), if_neg (show ¬ nI Y = (4 : Int32) by rw [li4, eq_ok (by omega) (by omega)]; exact hY)]
  by_cases hF0 : F = 0
  · subst hF0
    rw [if_neg (show ¬ (1 : Int32) ≤ nI 0 by decide), if_pos (show nI 0 = (0 : Int32) from rfl)]
    exact ac_no rfl h (by decide)
  rw [if_pos (show (1 : Int32) ≤ nI F by rw [li1, le_ok (by omega) (by omega)]; omega), if_neg (show ¬ nI F = (0 : Int32) by rw [li0, eq_ok (by omega) (by omega)]; exact hF0)]
  obtain ⟨μ1, ν1, e1, e2, hR1, hm, hr1, x, m⟩ := A_act h hr hi hn
  rw [e1, e2, bv_some, bv_some]
  obtain ⟨F', D', Y', μ2, ν2, hi', hr', e3, e4, hR, hr2, h1, g1, g2, g3, fx, fm, hk⟩ := Q_openR hR1 hn
  rw [hm] at hi' hr2 g3 h1
  have q8 := hi'.1.1
  have q20 := hi'.1.2.1
  have q4 := hi'.1.2.2
  obtain rfl : F' = F := by
    have := hi'.2.1.1
    rw [i0, eq_ok (by omega) (by omega)] at this
    exact this.symm
  obtain rfl : D' = D := by
    have := hi'.2.1.2.1
    rw [i1, eq_ok (by omega) (by omega)] at this
    exact this.symm
  obtain rfl : Y' = Y := by
    have := hi'.2.1.2.2
    rw [i2, eq_ok (by omega) (by omega)] at this
    exact this.symm
  clear hr' g2 hi'
  have hF8 := hi.1.1
  rw [e3, e4, bv_some, bv_some]
  obtain ⟨w1, w2, w3, w4⟩ := op_mo hi hr2
  obtain ⟨μ3, e5, s5, g5⟩ := X_spl (n := n) (B := 0) (C := 0 + 8) (F := F') (mo := fun f => (rd ν 1 (8 + 3 * f)).toNatClampNeg) (part := fun f => rd ν 1 (9 + 3 * f)) (μ := μ2) (by omega) (by omega) hr2.1.1 hF8 w1 w2 w3 hn
  have x3 : ∀ k i, k ≠ 239 → rd μ3 k i = rd μ2 k i := fun k i hk => (s5 k (by simp; omega)).1 i
  obtain ⟨μ4, e6, f0, f8, f9, f10, f4, fY, fB, fo⟩ := X_cW (n := n) (Y := Y') (μ := μ3) (by rw [x3 _ _ (by omega)]; exact hr2.1.2.2.2) hYlt hn
  rw [e5, bv_some, e6, bi_some]
  rw [show (0 : Int32) = nI 0 from rfl, show (1 : Int32) = nI 1 from rfl, show (2 : Int32) = nI 2 from rfl, M_old, bi_some, ib_ok (show 131 + 71 * Y' + 0 < 415 by omega) (by omega), if_pos rfl, cl_ok (show 131 + 71 * Y' + 0 < 2147483648 by omega), M_old, bi_some, ib_ok (show 131 + 71 * Y' + 1 < 415 by omega) (by omega), if_pos rfl, cl_ok (show 131 + 71 * Y' + 1 < 2147483648 by omega), M_old, bi_some, ib_ok (show 131 + 71 * Y' + 2 < 415 by omega) (by omega), if_pos rfl, cl_ok (show 131 + 71 * Y' + 2 < 2147483648 by omega)]
  have ya : rd (wr ν2 1 (131 + 71 * Y' + 0) (rd ν2 1 3)) 1 4 = rd ν 1 4 := by rw [rd_wr, if_neg (by omega), h1]
  have yb : rd (wr (wr ν2 1 (131 + 71 * Y' + 0) (rd ν2 1 3)) 1 (131 + 71 * Y' + 1) (rd ν 1 4)) 1 1 = nI D' := by rw [rd_wr, if_neg (by omega), rd_wr, if_neg (by omega), h1, i1]
  rw [ya, yb, h1]
  have hA1 : ∀ k, rd (wr (wr (wr ν2 1 (131 + 71 * Y' + 0) (rd ν 1 3)) 1 (131 + 71 * Y' + 1) (rd ν 1 4)) 1 (131 + 71 * Y' + 2) (nI D')) 1 k = if k = 133 + 71 * Y' then nI D' else if k = 132 + 71 * Y' then rd ν 1 4 else if k = 131 + 71 * Y' then rd ν 1 3 else rd ν 1 k := by
    intro k
    rw [rd_wr, rd_wr, rd_wr, h1, show 131 + 71 * Y' + 0 = 131 + 71 * Y' by omega, show 131 + 71 * Y' + 1 = 132 + 71 * Y' by omega, show 131 + 71 * Y' + 2 = 133 + 71 * Y' by omega]
    simp only [true_and]
  have hA0 : ∀ c j, c ≠ 1 → rd (wr (wr (wr ν2 1 (131 + 71 * Y' + 0) (rd ν 1 3)) 1 (131 + 71 * Y' + 1) (rd ν 1 4)) 1 (131 + 71 * Y' + 2) (nI D')) c j = rd ν2 c j := by
    intro c j hc
    rw [rd_wr, if_neg (by omega), rd_wr, if_neg (by omega), rd_wr, if_neg (by omega)]
  generalize wr (wr (wr ν2 1 (131 + 71 * Y' + 0) (rd ν 1 3)) 1 (131 + 71 * Y' + 1) (rd ν 1 4)) 1 (131 + 71 * Y' + 2) (nI D') = νa at hA1 hA0 ⊢
  have hAo : ∀ k, (k < 131 + 71 * Y' ∨ 134 + 71 * Y' ≤ k) → rd νa 1 k = rd ν 1 k := fun k hk => by rw [hA1, if_neg (by omega), if_neg (by omega), if_neg (by omega)]
  have h91 := fun k => M_c91 (n := n) (D := D') (Y := Y') (s := νa) (k := k) ((hAo 1 (by omega)).trans i1) hD20 ((hAo 2 (by omega)).trans i2) hYlt hn
  obtain ⟨νb, e91, b0, b1, b2⟩ := h91 _
  rw [show (0 : Int32) = nI 0 from rfl] at e91
  rw [e91]
  have hBo : ∀ k, (k < 131 + 71 * Y' ∨ 134 + 71 * Y' + D' ≤ k) → rd νb 1 k = rd ν 1 k := fun k hk => (b1 k (by omega)).trans (hAo k (by omega))
  have hBu : ∀ d, d < D' → rd νb 1 (134 + 71 * Y' + d) = p_uN (rd ν 1) D' Y' d := fun d hd => (b2 d hd).trans (p_uN_co (fun k hk => hAo k (by omega)) hd hD20)
  have h126 := fun k => M_c126 (n := n) (F := F') (Y := Y') (s := νb) (k := k) ((hBo 0 (by omega)).trans i0) hF8 hYlt (fun f hf => by rw [hBo _ (by omega)]; exact iF.2.1 f hf) hn
  obtain ⟨νc, e126, c0, c1, c2, c3⟩ := h126 _
  rw [show (0 : Int32) = nI 0 from rfl] at e126
  rw [e126]
  have h307 := fun k => M_c307 (n := n) (D := D') (v := nI Y') (s := νc) (k := k) ((c1 1 (by omega) (by omega)).trans ((hBo 1 (by omega)).trans i1)) hD20 hn
  obtain ⟨νd, e307, d0, d1, d2⟩ := h307 _
  rw [show (0 : Int32) = nI 0 from rfl] at e307
  rw [e307]
  have hz2 : rd (wr νd 1 3 (nI 0)) 1 2 = nI Y' := by
    rw [rd_wr, if_neg (by omega), d1 _ (by omega), c1 _ (by omega) (by omega), hBo _ (by omega)]
    exact i2
  rw [hz2, nI_add]
  have hE1 : ∀ k, rd (wr (wr νd 1 3 (nI 0)) 1 2 (nI (Y' + 1))) 1 k = if k = 2 then nI (Y' + 1) else if k = 3 then 0 else rd νd 1 k := by
    intro k
    rw [rd_wr, rd_wr]
    simp only [true_and]
    rfl
  have hE0 : ∀ c j, c ≠ 1 → rd (wr (wr νd 1 3 (nI 0)) 1 2 (nI (Y' + 1))) c j = rd ν2 c j := by
    intro c j hc
    rw [rd_wr, if_neg (by omega), rd_wr, if_neg (by omega), d0 c j hc, c0 c j hc, b0 c j hc, hA0 c j hc]
  generalize wr (wr νd 1 3 (nI 0)) 1 2 (nI (Y' + 1)) = νe at hE1 hE0 ⊢
  have go : ∀ k, k ≠ 2 → k ≠ 3 → (k < 7 ∨ 31 ≤ k ∨ (k - 7) % 3 = 0) → (k < 33 ∨ 131 ≤ k ∨ (k - 33) % 5 ≠ 0) → k < 131 + 71 * Y' → rd νe 1 k = rd ν 1 k := fun k k1 k2 k3 k4 k5 => by
    rw [hE1, if_neg k1, if_neg k2, d1 k (by omega), c1 k (by omega) (by omega), hBo k (by omega)]
  have gn0 : ∀ k, 131 ≤ k → rd νe 1 k = rd νc 1 k := fun k k1 => by rw [hE1, if_neg (by omega), if_neg (by omega), d1 k (by omega)]
  have n0 : rd νe 1 (131 + 71 * Y') = rd ν 1 3 := by rw [gn0 _ (by omega), c1 _ (by omega) (by omega), b1 _ (by omega), hA1, if_neg (by omega), if_neg (by omega), if_pos rfl]
  have n1 : rd νe 1 (132 + 71 * Y') = rd ν 1 4 := by rw [gn0 _ (by omega), c1 _ (by omega) (by omega), b1 _ (by omega), hA1, if_neg (by omega), if_pos rfl]
  have n2 : rd νe 1 (133 + 71 * Y') = nI D' := by rw [gn0 _ (by omega), c1 _ (by omega) (by omega), b1 _ (by omega), hA1, if_pos rfl]
  have nu : ∀ d, d < D' → rd νe 1 (134 + 71 * Y' + d) = p_uN (rd ν 1) D' Y' d := fun d hd => by rw [gn0 _ (by omega), c1 _ (by omega) (by omega)]; exact hBu d hd
  have nm : ∀ f, f < F' → rd νe 1 (154 + 71 * Y' + 2 * f) = rd ν 1 (8 + 3 * f) ∧ rd νe 1 (155 + 71 * Y' + 2 * f) = rd ν 1 (9 + 3 * f) := fun f hf => by
    rw [gn0 _ (by omega), gn0 _ (by omega), (c2 f hf).2.2.1, (c2 f hf).2.2.2, hBo _ (by omega), hBo _ (by omega)]
    exact ⟨rfl, rfl⟩
  have nb : ∀ k, k < 2 * F' → rd νe 1 (170 + 71 * Y' + k) = rd μ3 239 k ∧ rd νe 1 (186 + 71 * Y' + k) = 0 := fun k hk => by
    rw [gn0 _ (by omega), gn0 _ (by omega), (c3 k hk).1, (c3 k hk).2, g5 k (by omega), if_pos hk]
    refine ⟨?_, rfl⟩
    unfold p_bil
    rw [b0 _ _ (by omega), b0 _ _ (by omega), hA0 _ _ (by omega), hA0 _ _ (by omega), (g1 (k / 2) (by omega)).1, (g1 (k / 2) (by omega)).2]
    dsimp only
    rw [hBo _ (by omega), hBo _ (by omega)]
  have gf : ∀ f, f < F' → rd νe 1 (8 + 3 * f) = 0 ∧ rd νe 1 (9 + 3 * f) = -5 := fun f hf => by
    rw [hE1, if_neg (by omega), if_neg (by omega), d1 _ (by omega), (c2 f hf).1, hE1, if_neg (by omega), if_neg (by omega), d1 _ (by omega), (c2 f hf).2.1]
    exact ⟨rfl, rfl⟩
  have gb : ∀ d, d < D' → rd νe 1 (33 + 5 * d) = rd ν 1 (34 + 5 * d) := fun d hd => by
    rw [hE1, if_neg (by omega), if_neg (by omega), d2 d hd, c1 _ (by omega) (by omega), hBo _ (by omega)]
  have fX1 : fX μ2 μ4 := fun k i hk => by rw [fo _ _ (by omega) (by omega) (by omega) (by omega) (by omega) (by omega), x3 _ _ (by omega)]
  refine ac_ok rfl (RR_NR (F := F') (D := D') (Y := Y' + 1) hR (fun k i hk => ?_) (fun k i hk => ?_) ⟨?_, ?_⟩) (nI_pos' (by omega)) e1 x (fX_tr fx fX1) (fun q => ?_)
  · rw [fo _ _ (by omega) (by omega) (by omega) (by omega) (by omega) (by omega), x3 _ _ (by omega)]
  · exact hE0 k i (by omega)
  · refine Inv_mk ⟨hF8, hD20, by omega⟩ ⟨by rw [go _ (by omega) (by omega) (by omega) (by omega) (by omega)]; exact i0, by rw [go _ (by omega) (by omega) (by omega) (by omega) (by omega)]; exact i1, by rw [hE1, if_pos rfl]⟩ ⟨fun f hf => ?_, fun f hf => ?_, fun f hf => ?_⟩ ⟨fun d hd => ?_, fun d hd => ?_, fun d hd => ?_, fun d hd => ?_⟩ ⟨fun y hy => ?_, fun y f hy hf => ?_⟩
    · rw [go _ (by omega) (by omega) (by omega) (by omega) (by omega)]; exact iF.1 f hf
    · rw [(gf f hf).1]; exact rg_mk (v := 0) (by omega) (by omega) (by omega)
    · exact fun _ => (gf f hf).2
    · rw [go _ (by omega) (by omega) (by omega) (by omega) (by omega)]; exact iD.1 d hd
    · rw [go _ (by omega) (by omega) (by omega) (by omega) (by omega)]; exact iD.2.1 d hd
    · rw [go _ (by omega) (by omega) (by omega) (by omega) (by omega), gb d hd]
      exact ⟨(iD.2.2.1 d hd).1, (iD.2.2.1 d hd).1, Nat.le_refl _⟩
    · rw [go _ (by omega) (by omega) (by omega) (by omega) (by omega)]; exact iD.2.2.2 d hd
    · by_cases e : y = Y'
      · subst e
        refine ⟨D', Nat.le_refl _, n2, fun d hd => ?_⟩
        rw [nu d hd]
        obtain ⟨w, ew, hw⟩ := uN_b hi hd
        rw [ew]
        exact rg_mk (by omega) hw (by omega)
      · obtain ⟨E, hE, eE, hd⟩ := iY.1 y (by omega)
        refine ⟨E, hE, ?_, fun d hd' => ?_⟩
        · rw [go _ (by omega) (by omega) (by omega) (by omega) (by omega)]; exact eE
        · rw [go _ (by omega) (by omega) (by omega) (by omega) (by omega)]; exact hd d hd'
    · by_cases e : y = Y'
      · subst e
        rw [(nm f hf).1]
        exact iF.2.1 f hf
      · rw [go _ (by omega) (by omega) (by omega) (by omega) (by omega)]; exact iY.2 y f (by omega) hf
  · obtain ⟨⟨⟨a0', a1', a2', a3'⟩, ⟨b0', b1', b2'⟩⟩, rF, rD, rY⟩ := Rep_get hr2
    have x4 : ∀ k i, k ≠ 239 → k ≠ 4 → (k ≠ 0 ∨ i ≠ 10) → (k ≠ 8 ∨ i ≠ 0) → k ≠ 9 → k ≠ 10 → (k < 14 + 6 * Y' ∨ 20 + 6 * Y' ≤ k) → rd μ4 k i = rd μ2 k i := fun k i k0 k1 k2 k3 k4 k5 k6 => (fo k i k1 k2 k3 k4 k5 k6).trans (x3 k i k0)
    have xY : ∀ q i, vY q i → q ≠ 4 → rd μ4 (14 + 6 * Y' + q) i = rd μ2 (8 + q) i := fun q i hq hne => (fY q i hq hne).trans (x3 _ _ (by unfold vY at hq; omega))
    refine Rep_mk ⟨⟨?_, ?_, ?_, f0⟩, ⟨?_, ?_, ?_⟩⟩ ⟨fun f hf => ?_, fun f hf => ?_, fun f hf => ?_⟩ ⟨fun d hd => ?_, fun d hd => ?_, fun d hd => ?_, fun d hd => ?_⟩ ⟨fun y hy => ?_, fun k hk => ?_⟩
    · rw [x4 _ _ (by omega) (by omega) (by omega) (by omega) (by omega) (by omega) (by omega)]; exact a0'
    · rw [x4 _ _ (by omega) (by omega) (by omega) (by omega) (by omega) (by omega) (by omega), go _ (by omega) (by omega) (by omega) (by omega) (by omega)]; exact a1'
    · rw [x4 _ _ (by omega) (by omega) (by omega) (by omega) (by omega) (by omega) (by omega), go _ (by omega) (by omega) (by omega) (by omega) (by omega)]; exact a2'
    · rw [f8, hE1, if_neg (by omega), if_pos rfl]
    · rw [x4 _ _ (by omega) (by omega) (by omega) (by omega) (by omega) (by omega) (by omega), go _ (by omega) (by omega) (by omega) (by omega) (by omega)]; exact b1'
    · rw [x4 _ _ (by omega) (by omega) (by omega) (by omega) (by omega) (by omega) (by omega)]; exact b2'
    · rw [x4 _ _ (by omega) (by omega) (by omega) (by omega) (by omega) (by omega) (by omega), go _ (by omega) (by omega) (by omega) (by omega) (by omega)]; exact rF.1 f hf
    · rw [f9 f hf]
      by_cases e : f < F'
      · rw [(gf f e).1, if_neg (fun q => q.2 rfl)]
      · rw [if_neg (fun q => e q.1)]
    · rw [f10 f hf]
      by_cases e : f < F'
      · rw [(gf f e).2, if_pos e]
      · rw [if_neg e]
    · rw [x4 _ _ (by omega) (by omega) (by omega) (by omega) (by omega) (by omega) (by omega), x4 _ _ (by omega) (by omega) (by omega) (by omega) (by omega) (by omega) (by omega), go _ (by omega) (by omega) (by omega) (by omega) (by omega), go _ (by omega) (by omega) (by omega) (by omega) (by omega)]; exact rD.1 d hd
    · rw [f4 d hd, x3 _ _ (by omega)]
      refine (rD.2.2.1 d hd).trans ?_
      by_cases e : d < D'
      · rw [if_pos e, if_pos e, gb d e]
      · rw [if_neg e, if_neg e]
    · rw [x4 _ _ (by omega) (by omega) (by omega) (by omega) (by omega) (by omega) (by omega)]
      refine (rD.2.2.1 d hd).trans ?_
      by_cases e : d < D'
      · rw [if_pos e, if_pos e, go _ (by omega) (by omega) (by omega) (by omega) (by omega)]
      · rw [if_neg e, if_neg e]
    · rw [x4 _ _ (by omega) (by omega) (by omega) (by omega) (by omega) (by omega) (by omega)]
      refine (rD.2.2.2 d hd).trans ?_
      by_cases e : d < D'
      · rw [if_pos e, if_pos e, go _ (by omega) (by omega) (by omega) (by omega) (by omega)]
      · rw [if_neg e, if_neg e]
    · by_cases e : y = Y'
      · subst e
        refine ⟨?_, ?_, ?_, fun d hd hl => ?_, fun f hf => ?_, fun f hf => ?_, fun k hk => ?_, fun k hk => ?_⟩
        · have := xY 0 0 (by unfold vY; omega) (by omega)
          rw [Nat.add_zero, Nat.add_zero] at this
          rw [this, n0]; exact b0'
        · have := xY 0 1 (by unfold vY; omega) (by omega)
          rw [Nat.add_zero, Nat.add_zero] at this
          rw [this, n1]; exact b1'
        · have := xY 0 2 (by unfold vY; omega) (by omega)
          rw [Nat.add_zero, Nat.add_zero] at this
          rw [this, n2]; exact b2'
        · rw [n2, lt_ok (by omega) (by omega)] at hl
          rw [xY 3 d (by unfold vY; omega) (by omega), nu d hl]
          exact g3 d hl
        · rw [xY 1 f (by unfold vY; omega) (by omega), (nm f hf).1]
          refine (rF.2.1 f (by omega)).trans ?_
          by_cases z : rd ν 1 (8 + 3 * f) = 0
          · rw [if_neg (fun q => q.2 z), if_pos z]
          · rw [if_pos ⟨hf, z⟩, if_neg z]
        · rw [xY 2 f (by unfold vY; omega) (by omega), (nm f hf).2]
          exact (rF.2.2 f (by omega)).trans (if_pos hf)
        · rw [fB k hk]
          by_cases e : k < 2 * F'
          · rw [if_pos e, (nb k e).1]
          · rw [if_neg e, g5 k hk, if_neg e]
        · rw [xY 5 k (by unfold vY; omega) (by omega), (nb k hk).2]
          exact rY.2 k (by omega)
      · refine RepY_row (RepY_fr (rY.1 y (by omega)) hF8 (fun q i hq => x4 _ _ (by unfold vY at hq; omega) (by omega) (by omega) (by omega) (by omega) (by omega) (by unfold vY at hq; omega))) hF8 (fun k k1 k2 => go k (by omega) (by omega) (by omega) (by omega) (by omega))
    · rw [x4 _ _ (by omega) (by omega) (by omega) (by omega) (by omega) (by omega) (by omega)]; exact rY.2 k hk
  · have hg : ∀ k i, jk k i → (k ≠ 0 ∨ i ≠ 10) → (k ≠ 8 ∨ i ≠ 0) → k < 14 → rd μ4 k i = rd μ1 k i := fun k i w1 w2 w3 w4 => by
      unfold jk at w1
      rw [fo k i (by omega) w2 w3 (by omega) (by omega) (by omega), x3 _ _ (by omega), hk k i (by omega) (by omega)]
    unfold jk at hg
    have c0 : (0 : Int32) ≤ nI c := Int32.le_trans q.2.1.1 q.2.1.2
    refine JJ_g q (by rw [hg 0 0 (by omega) (by omega) (by omega) (by omega)]; exact q.1.1) (by rw [hg 8 2 (by omega) (by omega) (by omega) (by omega)]; exact q.1.2.1) (Or.inr ?_) (Or.inr ⟨by rw [f8]; decide, by rw [f8]; exact c0⟩) (Or.inl (hg 8 1 (by omega) (by omega) (by omega) (by omega))) (Or.inl (hg 0 7 (by omega) (by omega) (by omega) (by omega)))
    by_cases hY0 : Y' = 0
    · subst hY0
      have w := fY 0 2 (by unfold vY; omega) (by omega)
      have w2 := fY 3 0 (by unfold vY; omega) (by omega)
      rw [show 14 + 6 * 0 + 0 = 14 from rfl, show 8 + 0 = 8 from rfl, x3 _ _ (by omega), hk 8 2 (by omega) (by omega)] at w
      have hD1 : 1 ≤ D' := by
        have z := q.1.2.1
        rw [show rd μ1 8 2 = nI D' from hr1.2.1.2.2, li1, le_ok (by omega) (by omega)] at z
        exact z
      obtain ⟨u, eu, hu⟩ := uN_c hi (show 0 < D' by omega)
      rw [show 14 + 6 * 0 + 3 = 17 from rfl, show 8 + 3 = 11 from rfl, x3 _ _ (by omega), g3 0 (by omega), eu] at w2
      rw [w, w2]
      exact ⟨q.1.2.1, nI_pos' (by omega), by rw [li199980, le_ok (by omega) (by omega)]; exact hu⟩
    · have w1 : rd μ4 14 2 = rd μ1 14 2 := by rw [fo 14 2 (by omega) (by omega) (by omega) (by omega) (by omega) (by omega), x3 _ _ (by omega), hk 14 2 (by omega) (by omega)]
      have w2 : rd μ4 17 0 = rd μ1 17 0 := by rw [fo 17 0 (by omega) (by omega) (by omega) (by omega) (by omega) (by omega), x3 _ _ (by omega), hk 17 0 (by omega) (by omega)]
      rw [w1, w2]
      rcases q.1.2.2 with z | z
      · exfalso
        have z2 : nI Y' = nI 0 := (hr1.1.2.2.2).symm.trans z
        rw [eq_ok (by omega) (by omega)] at z2
        omega
      · exact z
theorem O_close {n : Nat} {μ ν : hb_m} (h : RR μ ν) (hn : 2147483648 ≤ n) : Op (fX5_close n μ) (fX6_close n ν) := Ac_op (A_close (c := 0) h hn)

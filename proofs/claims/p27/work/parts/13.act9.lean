/-! BOTH SIDES: acts (9): correct -/
theorem sI_ext (g : Nat → Int32) {m : Nat} : ∀ k, (∀ i, m ≤ i → g i = 0) → sI g (m + k) = sI g m
  | 0, _ => rfl
  | k + 1, h => by
    rw [← Nat.add_assoc]
    simp only [sI]
    rw [sI_ext g k h, h _ (by omega), Int32.add_zero]
theorem A_correct {n c : Nat} {p1 p2 p3 : Int32} {μ ν : hb_m} (h : RR μ ν) (hn : 2147483648 ≤ n) : Ac n c μ (fX5_correct n p1 p2 p3 μ) (fX6_correct n p1 p2 p3 ν) := by
  obtain ⟨F, D, Y, hi, hr⟩ := id h.1
  have hF8 := hi.1.1
  have hD20 := hi.1.2.1
  have hY4 := hi.1.2.2
  obtain ⟨-, ⟨i0, i1, i2⟩, iF, iD, iY⟩ := Inv_get hi
  obtain ⟨⟨⟨a0, a1, a2, a3⟩, ⟨b0, b1, b2⟩⟩, rF, rD, rY⟩ := Rep_get hr
  unfold fX5_correct fX6_correct
  rcases ix_cases p1 Y (by omega) with hp | ⟨y, hy, rfl⟩
  · rw [X_cY_n a3 hp, M_isC_n i2 (by omega) hp, br_none, bi_some]
    simp only [e00, if_true]
    exact ac_no rfl h (by decide)
  rw [X_cY_y a3 hY4 hy, M_isC_y i2 (by omega) hy, br_some, bi_some]
  simp only [e10, if_false]
  obtain ⟨k0, k1, k2, k3, k4, k5, k6, k7⟩ := rY.1 y hy
  obtain ⟨E, hED, eE, hEu⟩ := iY.1 y hy
  rw [eE] at k2 k3
  rw [li2, M_old, bi_some, ib_ok (show 131 + 71 * y + 2 < 415 by omega) (by omega), if_pos rfl, cl_ok (show 131 + 71 * y + 2 < 2147483648 by omega), show 131 + 71 * y + 2 = 133 + 71 * y by omega, eE, show 0 + 14 + 6 * y = 14 + 6 * y by omega]
  rcases ix_cases p2 E (by omega) with hp | ⟨d, hd, rfl⟩
  · rw [X_hD_n k2 hp, M_inI_n (by omega) hp, bi_some, bi_some]
    simp only [e00, if_true]
    exact ac_no rfl h (by decide)
  rw [X_hD_y k2 (by omega) hd, M_inI_y (by omega) hd, bi_some, bi_some]
  simp only [e10, if_false]
  rw [M_in, bi_some]
  rcases in_cases p3 0 199980 with ⟨c1, c2⟩ | ⟨c1, c2, c3⟩ | ⟨c1, c2, c3⟩
  · rw [if_pos c1, if_neg c2, if_pos (show (0 : Int32) = 0 from rfl)]
    exact ac_no rfl h (by decide)
  · rw [if_neg c1, if_neg c2, if_neg c3, if_pos (show (0 : Int32) = 0 from rfl)]
    exact ac_no rfl h (by decide)
  rw [if_neg c1, if_pos c2, if_pos c3]
  simp only [e10, if_false]
  have hu : rg p3 0 79992000 := by
    obtain ⟨q1, q2, q3⟩ := rg_of (a := 0) (b := 199980) c3.1 c3.2 (by omega) (by omega)
    exact ⟨q1, q2, by omega⟩
  rw [ib_ok (show d < 20 by omega) (by omega), if_pos rfl, cl_ok (by omega), k3 d (by omega) (by rw [lt_ok (by omega) (by omega)]; exact hd), li3, nI_add, M_old, bi_some, ib_ok (show 131 + 71 * y + (3 + d) < 415 by omega) (by omega), if_pos rfl, cl_ok (show 131 + 71 * y + (3 + d) < 2147483648 by omega), show 131 + 71 * y + (3 + d) = 134 + 71 * y + d by omega]
  by_cases he : rd ν 1 (134 + 71 * y + d) = p3
  · rw [if_pos he, if_pos he]
    exact ac_no rfl h (by decide)
  rw [if_neg he, if_neg he]
  obtain ⟨μ1, ν1, e1, e2, hR, hm, hr1, x, m⟩ := A_act h hr hi hn
  rw [e1, e2, bv_some, bv_some, if_pos rfl, M_old, bi_some, show 131 + 71 * y + (3 + d) = 134 + 71 * y + d by omega, ib_ok (show 134 + 71 * y + d < 415 by omega) (by omega), if_pos rfl, show ib 6 415 = true from by decide, if_pos rfl, if_pos rfl, cl_ok (show 134 + 71 * y + d < 2147483648 by omega), show (6 : Int32).toNatClampNeg = 6 from rfl]
  have hz : rd (wr ν1 1 (134 + 71 * y + d) p3) 1 6 = rd ν 1 6 := by rw [rd_wr, if_neg (by omega), hm]
  rw [hz, show rd μ1 0 8 = rd ν 1 6 from hr1.1.2.2.1]
  have hN : NR μ1 ν1 F D Y := by
    rw [← hm] at hi hr1
    exact ⟨hi, hr1⟩
  have hN2 := put_cor (v := rd ν 1 6 + 1) hN hy (by rw [hm]; exact eE) hED hd hu
  have hR2 := RR_NR hR (fX_tr (fX_wr (show 0 < 38 by omega)) (fX_wr (show 14 + 6 * y + 3 < 38 by omega))) (fM_tr fM_wr fM_wr) hN2
  have eE2 : rd (wr (wr ν1 1 (134 + 71 * y + d) p3) 1 6 (rd ν 1 6 + 1)) 1 (133 + 71 * y) = nI E := by rw [rd_wr, if_neg (by omega), rd_wr, if_neg (by omega), hm]; exact eE
  generalize wr (wr ν1 1 (134 + 71 * y + d) p3) 1 6 (rd ν 1 6 + 1) = ν2 at hN2 hR2 eE2 ⊢
  have fX2 : fX μ1 (wr (wr μ1 0 8 (rd ν 1 6 + 1)) (14 + 6 * y + 3) d p3) := fX_tr (fX_wr (show 0 < 38 by omega)) (fX_wr (show 14 + 6 * y + 3 < 38 by omega))
  have j2' : ∀ k i, jk k i → k ≠ 17 → rd (wr (wr μ1 0 8 (rd ν 1 6 + 1)) (14 + 6 * y + 3) d p3) k i = rd μ1 k i := fun k i hk h17 => by unfold jk at hk; rw [rd_wr, if_neg (by omega), rd_wr, if_neg (by omega)]
  have j17 : rd (wr (wr μ1 0 8 (rd ν 1 6 + 1)) (14 + 6 * y + 3) d p3) 17 0 = rd μ1 17 0 ∨ (0 ≤ rd (wr (wr μ1 0 8 (rd ν 1 6 + 1)) (14 + 6 * y + 3) d p3) 17 0 ∧ rd (wr (wr μ1 0 8 (rd ν 1 6 + 1)) (14 + 6 * y + 3) d p3) 17 0 ≤ 199980) := by
    rw [rd_wr]
    by_cases z : 17 = 14 + 6 * y + 3 ∧ 0 = d
    · rw [if_pos z]; exact Or.inr c3
    · rw [if_neg z, rd_wr, if_neg (by omega)]; exact Or.inl rfl
  generalize wr (wr μ1 0 8 (rd ν 1 6 + 1)) (14 + 6 * y + 3) d p3 = μ2 at hN2 hR2 fX2 j2' j17 ⊢
  obtain ⟨-, ⟨j0, j1, j2⟩, jF, jD, jY⟩ := Inv_get hN2.1
  obtain ⟨⟨⟨c0, c1', c2', c3'⟩, ⟨d0, d1, d2⟩⟩, qF, qD, qY⟩ := Rep_get hN2.2
  obtain ⟨l0, l1, l2, l3, l4, l5, l6, l7⟩ := qY.1 y hy
  rw [eE2] at l2 l3
  obtain ⟨E2, hE2, eE3, hEu2⟩ := jY.1 y hy
  obtain rfl : E2 = E := by
    rw [eE2, eq_ok (by omega) (by omega)] at eE3
    exact eE3.symm
  have hfu := fU_all (ρ := rd ν2 1) (u := p_oU (rd ν2 1) y) (F := F) (D := E2) hF8 (by omega) (fun e he => by
    obtain ⟨z1, z2, z3⟩ := hEu2 e he
    exact ⟨_, z1, z3⟩) (fun e he => jD.1 e (by omega))
  obtain ⟨μ3, e3, s3, g3, -⟩ := X_dU (n := n) (F := F) (D := E2) (B := 0) (C := 14 + 6 * y) (ρ := rd ν2 1) (U := p_oU (rd ν2 1) y) (μ := μ2) hx_H0 (by omega) c0 hF8 jF.1 (fun f hf => qF.1 f hf) l2 (by omega) (fun e he => by
    obtain ⟨a, ha, ea⟩ := jD.1 e (by omega)
    exact ⟨a, by omega, ea⟩) (fun e he => (qD.1 e (by omega)).1) (fun e he => l3 e (by omega) (by rw [lt_ok (by omega) (by omega)]; exact he)) hfu.1 hn
  obtain ⟨ν3, e4, s4, g4⟩ := M_lO (n := n) (F := F) (D := E2) (y := y) (μ := ν2) j0 hF8 jF.1 (by omega) eE2 (by omega) (fun e he => by
    obtain ⟨a, ha, ea⟩ := jD.1 e (by omega)
    exact ⟨a, by omega, ea⟩) (fun z => (gp_all (gn_pos hfu.1 z)).2.2) hn
  have x3 : ∀ k i, k < 236 ∨ k = 239 → rd μ3 k i = rd μ2 k i := fun k i hk => (s3 k (by simp; omega)).1 i
  have y3 : ∀ i, rd ν3 1 i = rd ν2 1 i := fun i => (s4 1 (by simp)).1 i
  have lm : ∀ f, f < F → rd μ3 (14 + 6 * y + 1) f = if (rd ν2 1 (154 + 71 * y + 2 * f)).toNatClampNeg = 0 then -5 else nI (rd ν2 1 (154 + 71 * y + 2 * f)).toNatClampNeg := fun f hf => by
    obtain ⟨w1, -, w2⟩ := jY.2 y f hy hf
    rw [x3 _ _ (by omega)]
    refine (l4 f hf).trans ?_
    by_cases z : (rd ν2 1 (154 + 71 * y + 2 * f)).toNatClampNeg = 0
    · rw [if_pos z, if_pos (by rw [w1, z]; rfl)]
    · rw [if_neg z, if_neg (fun q => z (by rw [q]; rfl))]
      exact w1
  obtain ⟨μ4, e5, s5, g5⟩ := X_spl (n := n) (B := 0) (C := 14 + 6 * y) (F := F) (mo := fun f => (rd ν2 1 (154 + 71 * y + 2 * f)).toNatClampNeg) (part := fun f => rd ν2 1 (155 + 71 * y + 2 * f)) (μ := μ3) (by omega) (by omega) ((x3 _ _ (by omega)).trans c0) hF8 lm (fun f hf => (jY.2 y f hy hf).2.2) (fun f hf => by rw [x3 _ _ (by omega)]; exact l5 f hf) hn
  have x4 : ∀ k i, k < 236 → rd μ4 k i = rd μ2 k i := fun k i hk => ((s5 k (by simp; omega)).1 i).trans (x3 k i (by omega))
  obtain ⟨μ5, e6, g6, f6⟩ := X_chA (n := n) (C := 14 + 6 * y) (μ := μ4) (by omega) hn
  have h101 := fun k => M_c101 (n := n) (F := F) (y := y) (p2 := nI d) (p3 := p3) (s := ν3) (k := k) ((y3 0).trans j0) hF8 (by omega) (fun f hf => by rw [y3]; exact jY.2 y f hy hf) hn
  obtain ⟨ν5, e7, n1, n2, n3⟩ := h101 _
  rw [e3, bv_some, e5, bv_some, e6, bi_some, e4, bv_some, e7]
  have hb : ∀ k, k < 2 * F → rd μ4 239 k = p_bil (rd ν3 9) (rd ν3 10) (fun f => (rd ν3 1 (154 + 71 * y + 2 * f)).toNatClampNeg) (fun f => rd ν3 1 (155 + 71 * y + 2 * f)) k := fun k hk => by
    rw [g5 k (by omega), if_pos hk]
    unfold p_bil
    rw [(g3 (k / 2) (by omega)).1, (g3 (k / 2) (by omega)).2, (g4 (k / 2) (by omega)).1, (g4 (k / 2) (by omega)).2, l0, l1]
    dsimp only
    rw [y3, y3]
  have hb0 : ∀ k, 2 * F ≤ k → k < 16 → rd μ4 239 k = 0 := fun k hk h16 => by rw [g5 k h16, if_neg (by omega)]
  have ho : ∀ k, k < 2 * F → rd μ4 (14 + 6 * y + 4) k = rd ν3 1 (170 + 71 * y + k) := fun k hk => by rw [x4 _ _ (by omega), y3]; exact (l6 k (by omega)).trans (if_pos hk)
  have ho0 : ∀ k, 2 * F ≤ k → k < 16 → rd μ4 (14 + 6 * y + 4) k = 0 := fun k hk h16 => by rw [x4 _ _ (by omega)]; exact (l6 k h16).trans (if_neg (by omega))
  have hoa : ∀ k, k < 2 * F → rd μ4 (14 + 6 * y + 5) k = rd ν3 1 (186 + 71 * y + k) := fun k hk => by rw [x4 _ _ (by omega), y3]; exact l7 k hk
  refine ac_ok ?_ ?_ (s01_pos (by omega) (fun k hk => by split <;> simp)) e1 x (fX_tr fX2 (fX_tr (fun k i hk => ((s5 k (by simp; omega)).1 i).trans ((s3 k (by simp; omega)).1 i)) (fun k i hk => f6 k i (by omega) (by omega)))) (fun q => by
    have hh : ∀ k i, jk k i → rd μ5 k i = rd μ2 k i := fun k i hk => by rw [f6 k i (by unfold jk at hk; omega) (by unfold jk at hk; omega), x4 k i (by unfold jk at hk; omega)]
    unfold jk at hh j2'
    exact JJ_g q (by rw [hh 0 0 (by omega), j2' 0 0 (by omega) (by omega)]; exact q.1.1) (by rw [hh 8 2 (by omega), j2' 8 2 (by omega) (by omega)]; exact q.1.2.1) (Or.inl ⟨by rw [hh 0 10 (by omega), j2' 0 10 (by omega) (by omega)], by rw [hh 14 2 (by omega), j2' 14 2 (by omega) (by omega)], by rw [hh 17 0 (by omega)]; exact j17⟩) (Or.inl (by rw [hh 8 0 (by omega), j2' 8 0 (by omega) (by omega)])) (Or.inl (by rw [hh 8 1 (by omega), j2' 8 1 (by omega) (by omega)])) (Or.inl (by rw [hh 0 7 (by omega), j2' 0 7 (by omega) (by omega)])))
  · have h16 : (16 : Nat) = 2 * F + (16 - 2 * F) := by omega
    rw [h16, sI_cat, sI_z (16 - 2 * F) (fun j hj => by rw [hb0 _ (by omega) (by omega), ho0 _ (by omega) (by omega), if_pos (by decide)]), Int32.add_zero]
    exact sI_co _ (fun k hk => by rw [hb k hk, ho k hk])
  · have hNq : NR μ4 ν3 F D Y := NR_q hN2 (fun k i hk _ => x4 k i (by omega)) y3
    have hRq : RR μ4 ν3 := RR_NR hR2 (fun k i hk => by
      refine ((s5 k (by simp; omega)).1 i).trans ((s3 k (by simp; omega)).1 i)) (fM_sx s4 (by intro k hk; simp; omega)) hNq
    refine RR_NR hRq (fun k i hk => f6 k i (by omega) (by omega)) (fun k i hk => n1 k i (by omega)) (put_bil hNq hy f6 (fun k hk => n2 k (by omega)) (fun k hk => ?_) (fun k hk => ?_))
    · rw [(g6 k hk).1]
      by_cases q : k < 2 * F
      · rw [if_pos q, (n3 k q).1, hb k q]
      · rw [if_neg q, hb0 k (by omega) hk]
    · rw [(g6 k (by omega)).2, (n3 k hk).2, hb k hk, ho k hk, hoa k hk]
theorem O_correct {n : Nat} {p1 p2 p3 : Int32} {μ ν : hb_m} (h : RR μ ν) (hn : 2147483648 ≤ n) : Op (fX5_correct n p1 p2 p3 μ) (fX6_correct n p1 p2 p3 ν) := Ac_op (A_correct (c := 0) h hn)

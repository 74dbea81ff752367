/-! BOTH SIDES: acts (2) -/
theorem A_addDevice {n c : Nat} {p1 p2 : Int32} {μ ν : hb_m} (h : RR μ ν) (hn : 2147483648 ≤ n) : Ac n c μ (fX5_addDevice n p1 p2 μ) (fX6_addDevice n p1 p2 ν) := by
  obtain ⟨F, D, Y, hi, hr⟩ := id h.1
  have hF8 := hi.1.1
  have hD20 := hi.1.2.1
  have hY4 := hi.1.2.2
  obtain ⟨-, ⟨i0, i1, i2⟩, iF, iD, iY⟩ := Inv_get hi
  obtain ⟨⟨⟨a0, a1, a2, a3⟩, ⟨b0, b1, b2⟩⟩, rF, rD, rY⟩ := Rep_get hr
  unfold fX5_addDevice fX6_addDevice
  rcases ix_cases p1 F (by omega) with hp | ⟨f, hf, rfl⟩
  · rw [X_hF_n a0 hp, M_isF_n i0 (by omega) hp, bi_some, bi_some]
    simp only [e00, if_true]
    exact ac_no rfl h (by decide)
  · rw [X_hF_y a0 (by omega) hf, M_isF_y i0 (by omega) hf, bi_some, bi_some]
    simp only [e10, if_false]
    rw [M_in, bi_some]
    rcases in_cases p2 1 20 with ⟨c1, c2⟩ | ⟨c1, c2, c3⟩ | ⟨c1, c2, c3⟩
    · rw [if_pos c1, if_neg c2, if_pos (show (0 : Int32) = 0 from rfl)]
      exact ac_no rfl h (by decide)
    · rw [if_neg c1, if_neg c2, if_neg c3, if_pos (show (0 : Int32) = 0 from rfl)]
      exact ac_no rfl h (by decide)
    · rw [if_neg c1, if_pos c2, if_pos c3]
      simp only [e10, if_false]
      rw [show rd μ (0 + 8) 2 = nI D from b2, show (1 : Int32).toNatClampNeg = 1 from rfl, show ib 1 415 = true from by decide, i1, if_pos rfl]
      by_cases hD : D = 20
      · subst hD
        rw [if_neg (show ¬ nI 20 < (20 : Int32) by decide), if_pos (show nI 20 = (20 : Int32) from rfl)]
        exact ac_no rfl h (by decide)
      · have hD7 : D < 20 := by omega
        rw [if_pos (show nI D < (20 : Int32) by rw [li20, lt_ok (by omega) (by omega)]; omega), if_neg (show ¬ nI D = (20 : Int32) by rw [li20, eq_ok (by omega) (by omega)]; exact hD)]
        obtain ⟨μ1, ν1, e1, e2, hR, hm, hr1, x, m⟩ := A_act h hr hi hn
        obtain ⟨⟨⟨a0', a1', a2', a3'⟩, ⟨b0', b1', b2'⟩⟩, rF', rD', rY'⟩ := Rep_get hr1
        rw [e1, e2, bv_some, bv_some, show rd μ1 (0 + 8) 2 = nI D from b2', ib_ok hD7 (by omega), if_pos rfl, if_pos rfl, cl_ok (by omega), li0, li1, li2, li3, li4, M_puts (by omega), bv_some, M_puts (by omega), bv_some, M_puts (by omega), bv_some, M_puts (by omega), bv_some, M_puts (by omega), bv_some, if_pos rfl, if_pos rfl, nI_add]
        have hz : rd (wr (wr (wr (wr (wr ν1 1 (31 + 5 * D + 0) (nI f)) 1 (31 + 5 * D + 1) p2) 1 (31 + 5 * D + 2) (nI 0)) 1 (31 + 5 * D + 3) (nI 0)) 1 (31 + 5 * D + 4) (nI 0)) 1 1 = nI D := by rw [rd_wr, if_neg (by omega), rd_wr, if_neg (by omega), rd_wr, if_neg (by omega), rd_wr, if_neg (by omega), rd_wr, if_neg (by omega), hm, i1]
        rw [hz, nI_add]
        have hν : ∀ k, rd (wr (wr (wr (wr (wr (wr ν1 1 (31 + 5 * D + 0) (nI f)) 1 (31 + 5 * D + 1) p2) 1 (31 + 5 * D + 2) (nI 0)) 1 (31 + 5 * D + 3) (nI 0)) 1 (31 + 5 * D + 4) (nI 0)) 1 1 (nI (D + 1))) 1 k = if k = 1 then nI (D + 1) else if k = 35 + 5 * D then 0 else if k = 34 + 5 * D then 0 else if k = 33 + 5 * D then 0 else if k = 32 + 5 * D then p2 else if k = 31 + 5 * D then nI f else rd ν 1 k := by
          intro k
          rw [rd_wr, rd_wr, rd_wr, rd_wr, rd_wr, rd_wr, hm, show 31 + 5 * D + 0 = 31 + 5 * D by omega, show 31 + 5 * D + 1 = 32 + 5 * D by omega, show 31 + 5 * D + 2 = 33 + 5 * D by omega, show 31 + 5 * D + 3 = 34 + 5 * D by omega, show 31 + 5 * D + 4 = 35 + 5 * D by omega]
          simp only [true_and]
          rfl
        refine ac_ok rfl (RR_now hR (fun k i hk => by rw [rd_wr, rd_wr, rd_wr, if_neg (by omega), if_neg (by omega), if_neg (by omega)]) (fun k i hk => by rw [rd_wr, rd_wr, rd_wr, rd_wr, rd_wr, rd_wr, if_neg (by omega), if_neg (by omega), if_neg (by omega), if_neg (by omega), if_neg (by omega), if_neg (by omega)]) ?_) (nI_pos' (by omega)) e1 x (fun k i hk => by rw [rd_wr, rd_wr, rd_wr, if_neg (by omega), if_neg (by omega), if_neg (by omega)]) (fun q => JJ_g q (by rw [rd_wr, rd_wr, rd_wr, if_neg (by omega), if_neg (by omega), if_neg (by omega)]; exact q.1.1) (by rw [rd_wr, if_pos ⟨by omega, rfl⟩, li1, le_ok (by omega) (by omega)]; omega) (Or.inl ⟨by rw [rd_wr, rd_wr, rd_wr, if_neg (by omega), if_neg (by omega), if_neg (by omega)], by rw [rd_wr, rd_wr, rd_wr, if_neg (by omega), if_neg (by omega), if_neg (by omega)], Or.inl (by rw [rd_wr, rd_wr, rd_wr, if_neg (by omega), if_neg (by omega), if_neg (by omega)])⟩) (Or.inl (by rw [rd_wr, rd_wr, rd_wr, if_neg (by omega), if_neg (by omega), if_neg (by omega)])) (Or.inl (by rw [rd_wr, rd_wr, rd_wr, if_neg (by omega), if_neg (by omega), if_neg (by omega)])) (Or.inl (by rw [rd_wr, rd_wr, rd_wr, if_neg (by omega), if_neg (by omega), if_neg (by omega)])))
        generalize (wr (wr (wr (wr (wr (wr ν1 1 (31 + 5 * D + 0) (nI f)) 1 (31 + 5 * D + 1) p2) 1 (31 + 5 * D + 2) (nI 0)) 1 (31 + 5 * D + 3) (nI 0)) 1 (31 + 5 * D + 4) (nI 0)) 1 1 (nI (D + 1))) = ν2 at hν ⊢
        have hX : ∀ k i, rd (wr (wr (wr μ1 (0 + 2) D (nI f)) (0 + 3) D p2) (0 + 8) 2 (nI (D + 1))) k i = if k = 8 ∧ i = 2 then nI (D + 1) else if k = 3 ∧ i = D then p2 else if k = 2 ∧ i = D then nI f else rd μ1 k i := by
          intro k i
          rw [rd_wr, rd_wr, rd_wr]
        generalize (wr (wr (wr μ1 (0 + 2) D (nI f)) (0 + 3) D p2) (0 + 8) 2 (nI (D + 1))) = μ2 at hX ⊢
        have g1 : rd ν2 1 (31 + 5 * D) = nI f := by rw [hν, if_neg (by omega), if_neg (by omega), if_neg (by omega), if_neg (by omega), if_neg (by omega), if_pos rfl]
        have g2 : rd ν2 1 (32 + 5 * D) = p2 := by rw [hν, if_neg (by omega), if_neg (by omega), if_neg (by omega), if_neg (by omega), if_pos rfl]
        have g3 : rd ν2 1 (33 + 5 * D) = 0 := by rw [hν, if_neg (by omega), if_neg (by omega), if_neg (by omega), if_pos rfl]
        have g4 : rd ν2 1 (34 + 5 * D) = 0 := by rw [hν, if_neg (by omega), if_neg (by omega), if_pos rfl]
        have g5 : rd ν2 1 (35 + 5 * D) = 0 := by rw [hν, if_neg (by omega), if_pos rfl]
        have go : ∀ k, k ≠ 1 → (k < 31 + 5 * D ∨ 36 + 5 * D ≤ k) → rd ν2 1 k = rd ν 1 k := fun k h0 hk => by rw [hν, if_neg h0, if_neg (by omega), if_neg (by omega), if_neg (by omega), if_neg (by omega), if_neg (by omega)]
        have gX : ∀ k i, k ≠ 2 → k ≠ 3 → (k ≠ 8 ∨ i ≠ 2) → rd μ2 k i = rd μ1 k i := fun k i k1 k2 k3 => by rw [hX, if_neg (by omega), if_neg (by omega), if_neg (by omega)]
        have z0 : rg (0 : Int32) 0 9999 := rg_mk (v := 0) (by omega) (by omega) (by omega)
        refine ⟨F, D + 1, Y, Inv_mk ⟨hF8, by omega, hY4⟩ ⟨by rw [go _ (by omega) (by omega)]; exact i0, by rw [hν, if_pos rfl], by rw [go _ (by omega) (by omega)]; exact i2⟩ (IF_fr iF hF8 (fun k k1 k2 => go k (by omega) (by omega))) ⟨fun d hd => ?_, fun d hd => ?_, fun d hd => ?_, fun d hd => ?_⟩ (IY_fr iY (by omega) hD20 hF8 (fun y k hy hk => go _ (by omega) (by omega))), Rep_mk ⟨⟨?_, ?_, ?_, ?_⟩, ⟨?_, ?_, ?_⟩⟩ (RF_fr rF' hF8 (fun k i k1 => gX _ _ (by omega) (by omega) (by omega)) (fun k k1 k2 => go k (by omega) (by omega))) ⟨fun d hd => ?_, fun d hd => ?_, fun d hd => ?_, fun d hd => ?_⟩ (RY_fr rY' hF8 (fun y k i hy hk => gX _ _ (by omega) (by omega) (by omega)) (fun y k hy hk => go _ (by omega) (by omega)) (fun i => gX _ _ (by omega) (by omega) (by omega)))⟩
        · by_cases hdD : d = D
          · subst hdD
            exact ⟨f, hf, g1⟩
          · rw [go _ (by omega) (by omega)]; exact iD.1 d (by omega)
        · by_cases hdD : d = D
          · subst hdD
            rw [g2]
            exact rg_of c3.1 c3.2 (by omega) (by omega)
          · rw [go _ (by omega) (by omega)]; exact iD.2.1 d (by omega)
        · by_cases hdD : d = D
          · subst hdD
            rw [g3, g4]
            exact ⟨z0, z0, Nat.le_refl _⟩
          · rw [go _ (by omega) (by omega), go _ (by omega) (by omega)]; exact iD.2.2.1 d (by omega)
        · by_cases hdD : d = D
          · subst hdD
            exact Or.inl g5
          · rw [go _ (by omega) (by omega)]; exact iD.2.2.2 d (by omega)
        · rw [gX _ _ (by omega) (by omega) (by omega)]; exact a0'
        · rw [gX _ _ (by omega) (by omega) (by omega), go _ (by omega) (by omega)]; exact a1'
        · rw [gX _ _ (by omega) (by omega) (by omega), go _ (by omega) (by omega)]; exact a2'
        · rw [gX _ _ (by omega) (by omega) (by omega)]; exact a3'
        · rw [gX _ _ (by omega) (by omega) (by omega), go _ (by omega) (by omega)]; exact b0'
        · rw [gX _ _ (by omega) (by omega) (by omega), go _ (by omega) (by omega)]; exact b1'
        · rw [hX, if_pos ⟨rfl, rfl⟩]
        · by_cases hdD : d = D
          · subst hdD
            rw [hX, if_neg (by omega), if_neg (by omega), if_pos ⟨rfl, rfl⟩, hX, if_neg (by omega), if_pos ⟨rfl, rfl⟩, g1, g2]
            exact ⟨rfl, rfl⟩
          · rw [hX, if_neg (by omega), if_neg (by omega), if_neg (by omega), hX, if_neg (by omega), if_neg (by omega), if_neg (by omega), go _ (by omega) (by omega), go _ (by omega) (by omega)]; exact rD'.1 d (by omega)
        · rw [gX _ _ (by omega) (by omega) (by omega)]
          refine (rD'.2.1 d hd).trans ?_
          by_cases hdD : d = D
          · subst hdD
            rw [if_neg (by omega), if_pos (by omega), g3]
          · by_cases hlt : d < D
            · rw [if_pos hlt, if_pos (by omega), go _ (by omega) (by omega)]
            · rw [if_neg hlt, if_neg (by omega)]
        · rw [gX _ _ (by omega) (by omega) (by omega)]
          refine (rD'.2.2.1 d hd).trans ?_
          by_cases hdD : d = D
          · subst hdD
            rw [if_neg (by omega), if_pos (by omega), g4]
          · by_cases hlt : d < D
            · rw [if_pos hlt, if_pos (by omega), go _ (by omega) (by omega)]
            · rw [if_neg hlt, if_neg (by omega)]
        · rw [gX _ _ (by omega) (by omega) (by omega)]
          refine (rD'.2.2.2 d hd).trans ?_
          by_cases hdD : d = D
          · subst hdD
            rw [if_neg (by omega), if_pos (by omega), g5]
          · by_cases hlt : d < D
            · rw [if_pos hlt, if_pos (by omega), go _ (by omega) (by omega)]
            · rw [if_neg hlt, if_neg (by omega)]
/-- a setting is put on both sides -/
theorem O_addDevice {n : Nat} {p1 p2 : Int32} {μ ν : hb_m} (h : RR μ ν) (hn : 2147483648 ≤ n) : Op (fX5_addDevice n p1 p2 μ) (fX6_addDevice n p1 p2 ν) := Ac_op (A_addDevice (c := 0) h hn)
theorem set_one {F D Y k i j : Nat} {v : Int32} {μ ν : hb_m} (hR : RR μ ν) (hi : Inv (rd ν 1) F D Y) (hr : Rep μ 0 (rd ν 1) F D Y) (hk : (k = 8 ∧ i = 0 ∧ j = 3) ∨ (k = 8 ∧ i = 1 ∧ j = 4) ∨ (k = 0 ∧ i = 7 ∧ j = 5)) : RR (wr μ k i v) (wr ν 1 j v) := by
  have hF8 := hi.1.1
  have hD20 := hi.1.2.1
  have hY4 := hi.1.2.2
  obtain ⟨hb, ⟨i0, i1, i2⟩, iF, iD, iY⟩ := Inv_get hi
  obtain ⟨⟨⟨a0, a1, a2, a3⟩, ⟨b0, b1, b2⟩⟩, rF, rD, rY⟩ := Rep_get hr
  have go : ∀ k, k ≠ j → rd (wr ν 1 j v) 1 k = rd ν 1 k := fun k h0 => by rw [rd_wr, if_neg (by omega)]
  have gX : ∀ k' i', (k' ≠ k ∨ i' ≠ i) → rd (wr μ k i v) k' i' = rd μ k' i' := fun k' i' h0 => by rw [rd_wr, if_neg (by omega)]
  have gj : rd (wr ν 1 j v) 1 j = v := by rw [rd_wr, if_pos ⟨rfl, rfl⟩]
  have gi : rd (wr μ k i v) k i = v := by rw [rd_wr, if_pos ⟨rfl, rfl⟩]
  refine RR_now hR (fun k' i' hk' => gX _ _ (by omega)) (fun k' i' hk' => by rw [rd_wr, if_neg (by omega)]) ⟨F, D, Y, Inv_mk hb ⟨by rw [go _ (by omega)]; exact i0, by rw [go _ (by omega)]; exact i1, by rw [go _ (by omega)]; exact i2⟩ (IF_fr iF hF8 (fun k k1 k2 => go k (by omega))) (ID_fr iD (Nat.le_refl _) hD20 (fun k k1 k2 => go k (by omega))) (IY_fr iY (Nat.le_refl _) hD20 hF8 (fun y k hy hk => go _ (by omega))), Rep_mk ⟨⟨?_, ?_, ?_, ?_⟩, ⟨?_, ?_, ?_⟩⟩ (RF_fr rF hF8 (fun k' i' k1 => gX _ _ (by omega)) (fun k k1 k2 => go k (by omega))) (RD_fr rD hD20 (fun k' i' k1 k2 => gX _ _ (by omega)) (fun k k1 k2 => go k (by omega))) (RY_fr rY hF8 (fun y k' i' hy hk' => gX _ _ (by omega)) (fun y k hy hk => go _ (by omega)) (fun i => gX _ _ (by omega)))⟩
  · rw [gX _ _ (by omega)]; exact a0
  · rcases hk with ⟨rfl, rfl, rfl⟩ | ⟨rfl, rfl, rfl⟩ | ⟨rfl, rfl, rfl⟩
    · rw [gX _ _ (by omega), go _ (by omega)]; exact a1
    · rw [gX _ _ (by omega), go _ (by omega)]; exact a1
    · rw [gi, gj]
  · rw [gX _ _ (by omega), go _ (by omega)]; exact a2
  · rw [gX _ _ (by omega)]; exact a3
  · rcases hk with ⟨rfl, rfl, rfl⟩ | ⟨rfl, rfl, rfl⟩ | ⟨rfl, rfl, rfl⟩
    · rw [gi, gj]
    · rw [gX _ _ (by omega), go _ (by omega)]; exact b0
    · rw [gX _ _ (by omega), go _ (by omega)]; exact b0
  · rcases hk with ⟨rfl, rfl, rfl⟩ | ⟨rfl, rfl, rfl⟩ | ⟨rfl, rfl, rfl⟩
    · rw [gX _ _ (by omega), go _ (by omega)]; exact b1
    · rw [gi, gj]
    · rw [gX _ _ (by omega), go _ (by omega)]; exact b1
  · rw [gX _ _ (by omega)]; exact b2
theorem O_set {n : Nat} {p1 p2 : Int32} {μ ν : hb_m} (h : RR μ ν) (hn : 2147483648 ≤ n) : Op (fX5_set n p1 p2 μ) (fX6_set n p1 p2 ν) := by
  obtain ⟨F, D, Y, hi, hr⟩ := id h.1
  obtain ⟨⟨⟨a0, a1, a2, a3⟩, ⟨b0, b1, b2⟩⟩, rF, rD, rY⟩ := Rep_get hr
  unfold fX5_set fX6_set fX2_setting fX2_putSetting
  rw [M_in, bi_some]
  rcases ix_cases p1 3 (by omega) with hp | ⟨k, hk3, rfl⟩
  · have c2 : ¬ (0 ≤ p1 ∧ p1 ≤ 2) := by rw [show (2 : Int32) = nI 3 - 1 from by decide, isI_eq (by omega)]; exact isI_n hp
    rw [if_neg c2, if_pos (show (0 : Int32) = 0 from rfl)]
    rcases hp with hp | hp
    · rw [if_pos hp]
      exact op_mk rfl h
    · have h0 : ¬ p1 < 0 := Int32.not_lt.mpr (Int32.le_trans (nI_pos' (by omega)) hp)
      rw [if_neg h0, if_neg (show ¬ p1 < Int32.ofNat 3 from Int32.not_lt.mpr hp)]
      exact op_mk rfl h
  · have c2 : (0 ≤ nI k ∧ nI k ≤ 2) := by rw [show (2 : Int32) = nI 3 - 1 from by decide, isI_eq (by omega)]; exact isI_y hk3 (by omega)
    have c0 : ¬ nI k < 0 := nI_pos (by omega)
    rw [if_pos c2, if_neg c0, if_pos (show nI k < Int32.ofNat 3 by rw [show Int32.ofNat 3 = nI 3 from rfl, lt_ok (by omega) (by omega)]; exact hk3), ib_ok hk3 (by omega)]
    simp only [e10, if_false, if_true]
    obtain z | z | z : k = 0 ∨ k = 1 ∨ k = 2 := by omega
    all_goals subst z
    · simp only [q_0_0, if_true]
      rw [M_in, bi_some, show tbX1f (nI 0).toNatClampNeg = 99999 from rfl, show (3 : Int32) + nI 0 = nI 3 from rfl, ib_ok (by omega) (by omega), cl_ok (by omega)]
      rcases in_cases p2 0 99999 with ⟨c1, c2⟩ | ⟨c1, c2, c3⟩ | ⟨c1, c2, c3⟩
      · rw [if_pos c1, if_neg c2, bi_some, if_pos (show (0 : Int32) = 0 from rfl)]
        exact op_mk rfl h
      · rw [if_neg c1, if_neg c2, if_neg c3, bi_some, if_pos (show (0 : Int32) = 0 from rfl)]
        exact op_mk rfl h
      · rw [if_neg c1, if_pos c2, if_pos c3, bi_some]
        simp only [e10, if_false, if_true]
        rw [show rd μ (0 + 8) 0 = rd ν 1 3 from b0]
        by_cases he : rd ν 1 3 = p2
        · rw [if_pos he, if_pos he]
          exact op_mk rfl h
        · rw [if_neg he, if_neg he]
          obtain ⟨μ1, ν1, e1, e2, hR, hm, hr1, x, m⟩ := A_act h hr hi hn
          rw [e1, e2, bv_some, bv_some, bv_some]
          rw [← hm] at hi hr1
          exact op_mk rfl (set_one hR hi hr1 (Or.inl ⟨rfl, rfl, rfl⟩))
    · simp only [q_1_0, q_1_1, if_true, if_false]
      rw [M_in, bi_some, show tbX1f (nI 1).toNatClampNeg = 100 from rfl, show (3 : Int32) + nI 1 = nI 4 from rfl, ib_ok (by omega) (by omega), cl_ok (by omega)]
      rcases in_cases p2 0 100 with ⟨c1, c2⟩ | ⟨c1, c2, c3⟩ | ⟨c1, c2, c3⟩
      · rw [if_pos c1, if_neg c2, bi_some, if_pos (show (0 : Int32) = 0 from rfl)]
        exact op_mk rfl h
      · rw [if_neg c1, if_neg c2, if_neg c3, bi_some, if_pos (show (0 : Int32) = 0 from rfl)]
        exact op_mk rfl h
      · rw [if_neg c1, if_pos c2, if_pos c3, bi_some]
        simp only [e10, if_false, if_true]
        rw [show rd μ (0 + 8) 1 = rd ν 1 4 from b1]
        by_cases he : rd ν 1 4 = p2
        · rw [if_pos he, if_pos he]
          exact op_mk rfl h
        · rw [if_neg he, if_neg he]
          obtain ⟨μ1, ν1, e1, e2, hR, hm, hr1, x, m⟩ := A_act h hr hi hn
          rw [e1, e2, bv_some, bv_some, bv_some]
          rw [← hm] at hi hr1
          exact op_mk rfl (set_one hR hi hr1 (Or.inr (Or.inl ⟨rfl, rfl, rfl⟩)))
    · simp only [q_2_0, q_2_1, if_false]
      rw [M_in, bi_some, show tbX1f (nI 2).toNatClampNeg = 1 from rfl, show (3 : Int32) + nI 2 = nI 5 from rfl, ib_ok (by omega) (by omega), cl_ok (by omega)]
      rcases in_cases p2 0 1 with ⟨c1, c2⟩ | ⟨c1, c2, c3⟩ | ⟨c1, c2, c3⟩
      · rw [if_pos c1, if_neg c2, bi_some, if_pos (show (0 : Int32) = 0 from rfl)]
        exact op_mk rfl h
      · rw [if_neg c1, if_neg c2, if_neg c3, bi_some, if_pos (show (0 : Int32) = 0 from rfl)]
        exact op_mk rfl h
      · rw [if_neg c1, if_pos c2, if_pos c3, bi_some]
        simp only [e10, if_false, if_true]
        rw [show rd μ 0 7 = rd ν 1 5 from a1]
        by_cases he : rd ν 1 5 = p2
        · rw [if_pos he, if_pos he]
          exact op_mk rfl h
        · rw [if_neg he, if_neg he]
          obtain ⟨μ1, ν1, e1, e2, hR, hm, hr1, x, m⟩ := A_act h hr hi hn
          rw [e1, e2, bv_some, bv_some, bv_some]
          rw [← hm] at hi hr1
          exact op_mk rfl (set_one hR hi hr1 (Or.inr (Or.inr ⟨rfl, rfl, rfl⟩)))
theorem A_set {n c : Nat} {p1 p2 : Int32} {μ ν : hb_m} (h : RR μ ν) (hn : 2147483648 ≤ n) (hJ : JJ c μ) (hp0 : p1 = 0 → p2 ≤ nI c) : Ac n c μ (fX5_set n p1 p2 μ) (fX6_set n p1 p2 ν) := by
  obtain ⟨F, D, Y, hi, hr⟩ := id h.1
  obtain ⟨⟨⟨a0, a1, a2, a3⟩, ⟨b0, b1, b2⟩⟩, rF, rD, rY⟩ := Rep_get hr
  have b0' : rd μ 8 0 = rd ν 1 3 := b0
  have b1' : rd μ 8 1 = rd ν 1 4 := b1
  have a1' : rd μ 0 7 = rd ν 1 5 := a1
  unfold fX5_set fX6_set fX2_setting fX2_putSetting
  rw [M_in, bi_some]
  rcases ix_cases p1 3 (by omega) with hp | ⟨k, hk3, rfl⟩
  · have c2 : ¬ (0 ≤ p1 ∧ p1 ≤ 2) := by rw [show (2 : Int32) = nI 3 - 1 from by decide, isI_eq (by omega)]; exact isI_n hp
    rw [if_neg c2, if_pos (show (0 : Int32) = 0 from rfl)]
    rcases hp with hp | hp
    · rw [if_pos hp]
      exact ac_no rfl h (by decide)
    · have h0 : ¬ p1 < 0 := Int32.not_lt.mpr (Int32.le_trans (nI_pos' (by omega)) hp)
      rw [if_neg h0, if_neg (show ¬ p1 < Int32.ofNat 3 from Int32.not_lt.mpr hp)]
      exact ac_no rfl h (by decide)
  · have c2 : (0 ≤ nI k ∧ nI k ≤ 2) := by rw [show (2 : Int32) = nI 3 - 1 from by decide, isI_eq (by omega)]; exact isI_y hk3 (by omega)
    have c0 : ¬ nI k < 0 := nI_pos (by omega)
    rw [if_pos c2, if_neg c0, if_pos (show nI k < Int32.ofNat 3 by rw [show Int32.ofNat 3 = nI 3 from rfl, lt_ok (by omega) (by omega)]; exact hk3), ib_ok hk3 (by omega)]
    simp only [e10, if_false, if_true]
    obtain z | z | z : k = 0 ∨ k = 1 ∨ k = 2 := by omega
    all_goals subst z
    · simp only [q_0_0, if_true]
      rw [M_in, bi_some, show tbX1f (nI 0).toNatClampNeg = 99999 from rfl, show (3 : Int32) + nI 0 = nI 3 from rfl, ib_ok (by omega) (by omega), cl_ok (by omega)]
      rcases in_cases p2 0 99999 with ⟨c1, c2⟩ | ⟨c1, c2, c3⟩ | ⟨c1, c2, c3⟩
      · rw [if_pos c1, if_neg c2, bi_some, if_pos (show (0 : Int32) = 0 from rfl)]
        exact ac_no rfl h (by decide)
      · rw [if_neg c1, if_neg c2, if_neg c3, bi_some, if_pos (show (0 : Int32) = 0 from rfl)]
        exact ac_no rfl h (by decide)
      · rw [if_neg c1, if_pos c2, if_pos c3, bi_some]
        simp only [e10, if_false, if_true]
        rw [show rd μ (0 + 8) 0 = rd ν 1 3 from b0]
        by_cases he : rd ν 1 3 = p2
        · rw [if_pos he, if_pos he]
          exact ac_no rfl h (by decide)
        · rw [if_neg he, if_neg he]
          obtain ⟨μ1, ν1, e1, e2, hR, hm, hr1, x, m⟩ := A_act h hr hi hn
          rw [e1, e2, bv_some, bv_some, bv_some]
          rw [← hm] at hi hr1
          exact ac_ok rfl (set_one hR hi hr1 (Or.inl ⟨rfl, rfl, rfl⟩)) (by rw [← b0']; exact hJ.2.1.1) e1 x (fun k i hk => by rw [rd_wr, if_neg (by omega)]) (fun q => JJ_g q (by rw [rd_wr, if_neg (by omega)]; exact q.1.1) (by rw [rd_wr, if_neg (by omega)]; exact q.1.2.1) (Or.inl ⟨by rw [rd_wr, if_neg (by omega)], by rw [rd_wr, if_neg (by omega)], Or.inl (by rw [rd_wr, if_neg (by omega)])⟩) (Or.inr (by rw [rd_wr, if_pos ⟨by omega, rfl⟩]; exact ⟨c3.1, hp0 rfl⟩)) (Or.inl (by rw [rd_wr, if_neg (by omega)])) (Or.inl (by rw [rd_wr, if_neg (by omega)])))
    · simp only [q_1_0, q_1_1, if_true, if_false]
      rw [M_in, bi_some, show tbX1f (nI 1).toNatClampNeg = 100 from rfl, show (3 : Int32) + nI 1 = nI 4 from rfl, ib_ok (by omega) (by omega), cl_ok (by omega)]
      rcases in_cases p2 0 100 with ⟨c1, c2⟩ | ⟨c1, c2, c3⟩ | ⟨c1, c2, c3⟩
      · rw [if_pos c1, if_neg c2, bi_some, if_pos (show (0 : Int32) = 0 from rfl)]
        exact ac_no rfl h (by decide)
      · rw [if_neg c1, if_neg c2, if_neg c3, bi_some, if_pos (show (0 : Int32) = 0 from rfl)]
        exact ac_no rfl h (by decide)
      · rw [if_neg c1, if_pos c2, if_pos c3, bi_some]
        simp only [e10, if_false, if_true]
        rw [show rd μ (0 + 8) 1 = rd ν 1 4 from b1]
        by_cases he : rd ν 1 4 = p2
        · rw [if_pos he, if_pos he]
          exact ac_no rfl h (by decide)
        · rw [if_neg he, if_neg he]
          obtain ⟨μ1, ν1, e1, e2, hR, hm, hr1, x, m⟩ := A_act h hr hi hn
          rw [e1, e2, bv_some, bv_some, bv_some]
          rw [← hm] at hi hr1
          exact ac_ok rfl (set_one hR hi hr1 (Or.inr (Or.inl ⟨rfl, rfl, rfl⟩))) (by rw [← b1']; exact hJ.2.2.1.1) e1 x (fun k i hk => by rw [rd_wr, if_neg (by omega)]) (fun q => JJ_g q (by rw [rd_wr, if_neg (by omega)]; exact q.1.1) (by rw [rd_wr, if_neg (by omega)]; exact q.1.2.1) (Or.inl ⟨by rw [rd_wr, if_neg (by omega)], by rw [rd_wr, if_neg (by omega)], Or.inl (by rw [rd_wr, if_neg (by omega)])⟩) (Or.inl (by rw [rd_wr, if_neg (by omega)])) (Or.inr (by rw [rd_wr, if_pos ⟨by omega, rfl⟩]; exact c3)) (Or.inl (by rw [rd_wr, if_neg (by omega)])))
    · simp only [q_2_0, q_2_1, if_false]
      rw [M_in, bi_some, show tbX1f (nI 2).toNatClampNeg = 1 from rfl, show (3 : Int32) + nI 2 = nI 5 from rfl, ib_ok (by omega) (by omega), cl_ok (by omega)]
      rcases in_cases p2 0 1 with ⟨c1, c2⟩ | ⟨c1, c2, c3⟩ | ⟨c1, c2, c3⟩
      · rw [if_pos c1, if_neg c2, bi_some, if_pos (show (0 : Int32) = 0 from rfl)]
        exact ac_no rfl h (by decide)
      · rw [if_neg c1, if_neg c2, if_neg c3, bi_some, if_pos (show (0 : Int32) = 0 from rfl)]
        exact ac_no rfl h (by decide)
      · rw [if_neg c1, if_pos c2, if_pos c3, bi_some]
        simp only [e10, if_false, if_true]
        rw [show rd μ 0 7 = rd ν 1 5 from a1]
        by_cases he : rd ν 1 5 = p2
        · rw [if_pos he, if_pos he]
          exact ac_no rfl h (by decide)
        · rw [if_neg he, if_neg he]
          obtain ⟨μ1, ν1, e1, e2, hR, hm, hr1, x, m⟩ := A_act h hr hi hn
          rw [e1, e2, bv_some, bv_some, bv_some]
          rw [← hm] at hi hr1
          exact ac_ok rfl (set_one hR hi hr1 (Or.inr (Or.inr ⟨rfl, rfl, rfl⟩))) (by rw [← a1']; exact hJ.2.2.2.1) e1 x (fun k i hk => by rw [rd_wr, if_neg (by omega)]) (fun q => JJ_g q (by rw [rd_wr, if_neg (by omega)]; exact q.1.1) (by rw [rd_wr, if_neg (by omega)]; exact q.1.2.1) (Or.inl ⟨by rw [rd_wr, if_neg (by omega)], by rw [rd_wr, if_neg (by omega)], Or.inl (by rw [rd_wr, if_neg (by omega)])⟩) (Or.inl (by rw [rd_wr, if_neg (by omega)])) (Or.inl (by rw [rd_wr, if_neg (by omega)])) (Or.inr (by rw [rd_wr, if_pos ⟨rfl, rfl⟩]; exact c3)))

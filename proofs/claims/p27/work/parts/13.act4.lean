/-! BOTH SIDES: acts (4): texts, history -/
theorem O_type {n : Nat} {p : Int32} {μ ν : hb_m} (h : RR μ ν) : Op (fX5_type n p μ) (fX6_type n p ν) := by
  obtain ⟨h1, h2, h3, t, t60, t1, t2, t3⟩ := id h
  unfold fX5_type fX3_append fX6_type
  rw [t1, t2]
  by_cases ht : t = 60
  · subst ht
    rw [if_neg (show ¬ nI 60 < (60 : Int32) by decide), if_pos (show nI 60 = (60 : Int32) from rfl), bi_some, if_pos (show (0 : Int32) = 0 from rfl)]
    exact op_mk rfl h
  · rw [if_pos (show nI t < (60 : Int32) by rw [li60, lt_ok (by omega) (by omega)]; omega), if_neg (show ¬ nI t = (60 : Int32) by rw [li60, eq_ok (by omega) (by omega)]; exact ht), ib_ok (by omega) (by omega), if_pos rfl, if_pos rfl, bi_some, cl_ok (by omega)]
    have x1 : rd (wr μ 232 t (vp_nar .char p)) 231 1 = nI t := by rw [rd_wr, if_neg (by omega)]; exact t1
    have x2 : rd (wr ν 4 t (vp_nar .char p)) 0 6 = nI t := by rw [rd_wr, if_neg (by omega)]; exact t2
    rw [x1, x2, li1, nI_add]
    rw [if_neg (show ¬ nI 1 = 0 by decide)]
    refine op_mk ?_ ?_
    · rw [rd_wr, if_pos ⟨rfl, rfl⟩, rd_wr, if_pos ⟨rfl, rfl⟩]
    · have gX : ∀ k i, k ≠ 232 → (k ≠ 231 ∨ i ≠ 1) → rd (wr (wr μ 232 t (vp_nar .char p)) 231 1 (nI (t + 1))) k i = rd μ k i := fun k i k1 k2 => by rw [rd_wr, if_neg (by omega), rd_wr, if_neg (by omega)]
      have gM : ∀ k i, k ≠ 4 → (k ≠ 0 ∨ i ≠ 6) → rd (wr (wr ν 4 t (vp_nar .char p)) 0 6 (nI (t + 1))) k i = rd ν k i := fun k i k1 k2 => by rw [rd_wr, if_neg (by omega), rd_wr, if_neg (by omega)]
      refine ⟨?_, ?_, ?_, ⟨t + 1, by omega, ?_, ?_, fun i hi => ?_⟩⟩
      · exact Sim_row (Sim_fr h1 (fun k i _ k2 _ => gX k i (by omega) (by omega))) (fun k _ => gM _ _ (by omega) (by omega))
      · exact RHs_fr h2 (fun k i _ _ => gX _ _ (by omega) (by omega)) (gX _ _ (by omega) (by omega)) (gX _ _ (by omega) (by omega)) (gM _ _ (by omega) (by omega)) (fun i => gM _ _ (by omega) (by omega))
      · exact RSn_fr h3 (fun k i _ _ => gX _ _ (by omega) (by omega)) (gX _ _ (by omega) (by omega)) (gM _ _ (by omega) (by omega)) (fun i => gM _ _ (by omega) (by omega))
      · rw [rd_wr, if_pos ⟨rfl, rfl⟩]
      · rw [rd_wr, if_pos ⟨rfl, rfl⟩]
      · have y1 : rd (wr (wr μ 232 t (vp_nar .char p)) 231 1 (nI (t + 1))) 232 i = if i = t then vp_nar .char p else rd μ 232 i := by
          rw [rd_wr, if_neg (by omega), rd_wr]
          simp only [true_and]
        have y2 : rd (wr (wr ν 4 t (vp_nar .char p)) 0 6 (nI (t + 1))) 4 i = if i = t then vp_nar .char p else rd ν 4 i := by
          rw [rd_wr, if_neg (by omega), rd_wr]
          simp only [true_and]
        rw [y1, y2]
        by_cases e : i = t
        · rw [if_pos e, if_pos e]
        · rw [if_neg e, if_neg e]
          exact t3 i (by omega)
theorem O_clear {n : Nat} {μ ν : hb_m} (h : RR μ ν) : Op (fX5_clearText n μ) (fX6_clearText n ν) := by
  obtain ⟨h1, h2, h3, t, t60, t1, t2, t3⟩ := id h
  unfold fX5_clearText fX6_clearText
  have gX : ∀ k i, (k ≠ 231 ∨ i ≠ 1) → rd (wr μ 231 1 0) k i = rd μ k i := fun k i k2 => by rw [rd_wr, if_neg (by omega)]
  have gM : ∀ k i, (k ≠ 0 ∨ i ≠ 6) → rd (wr ν 0 6 0) k i = rd ν k i := fun k i k2 => by rw [rd_wr, if_neg (by omega)]
  refine op_mk (t1.trans t2.symm) ⟨?_, ?_, ?_, ⟨0, by omega, ?_, ?_, fun i hi => by omega⟩⟩
  · exact Sim_row (Sim_fr h1 (fun k i _ k2 _ => gX k i (by omega))) (fun k _ => gM _ _ (by omega))
  · exact RHs_fr h2 (fun k i _ _ => gX _ _ (by omega)) (gX _ _ (by omega)) (gX _ _ (by omega)) (gM _ _ (by omega)) (fun i => gM _ _ (by omega))
  · exact RSn_fr h3 (fun k i _ _ => gX _ _ (by omega)) (gX _ _ (by omega)) (gM _ _ (by omega)) (fun i => gM _ _ (by omega))
  · rw [rd_wr, if_pos ⟨rfl, rfl⟩]; rfl
  · rw [rd_wr, if_pos ⟨rfl, rfl⟩]; rfl
theorem O_keep {n : Nat} {μ ν : hb_m} (h : RR μ ν) (hn : 2147483648 ≤ n) : Op (fX5_keep n μ) (fX6_keep n ν) := by
  obtain ⟨h1, h2, h3, h4⟩ := id h
  obtain ⟨F, D, Y, hi, hr⟩ := id h1
  unfold fX5_keep fX6_keep
  obtain ⟨μ1, e1, c1⟩ := X_cpH (n := n) (B := 38) (C := 0) (μ := μ) (by omega) (Sim_bool h1) hn
  obtain ⟨ν1, e2, d1, -⟩ := M_lay (n := n) (p := 0) (q := 0) (μ := ν) hm_n1 hm_n3 (by omega) (by omega) (by omega) (by omega) (by omega) hn
  rw [e1, show (0 : Int32) = nI 0 from rfl, e2, bv_some, bv_some, show (2 : Int32).toNatClampNeg = 2 from rfl, show ib 2 415 = true from by decide, if_pos rfl]
  have gX : ∀ k i, (k < 38 ∨ 76 ≤ k) → (k ≠ 228 ∨ i ≠ 2) → rd (wr μ1 228 2 1) k i = rd μ k i := fun k i k1 k2 => by rw [rd_wr, if_neg (by omega)]; exact c1.2.2.1 k i (by omega)
  have gM : ∀ k i, k ≠ 3 → (k ≠ 0 ∨ i ≠ 4) → rd (wr ν1 0 4 1) k i = rd ν k i := fun k i k1 k2 => by rw [rd_wr, if_neg (by omega), d1, if_neg (by omega)]
  refine op_mk ?_ ⟨?_, ?_, ⟨?_, Or.inr ⟨?_, ?_⟩⟩, ?_⟩
  · rw [gX _ _ (by omega) (by omega), gM _ _ (by omega) (by omega)]
    exact hr.1.2.2.2.trans hi.2.1.2.2.symm
  · exact Sim_row (Sim_fr h1 (fun k i _ k2 _ => gX k i (by omega) (by omega))) (fun k _ => gM _ _ (by omega) (by omega))
  · exact RHs_fr h2 (fun k i _ _ => gX _ _ (by omega) (by omega)) (gX _ _ (by omega) (by omega)) (gX _ _ (by omega) (by omega)) (gM _ _ (by omega) (by omega)) (fun i => gM _ _ (by omega) (by omega))
  · rw [rd_wr, if_pos ⟨rfl, rfl⟩, rd_wr, if_pos ⟨rfl, rfl⟩]
  · rw [rd_wr, if_pos ⟨rfl, rfl⟩]
  · refine Sim_row (Sim_fr (Sim_cp h1 c1) (fun k i _ _ _ => by rw [rd_wr, if_neg (by omega)])) (fun k hk => ?_)
    rw [rd_wr, if_neg (by omega), d1, if_pos ⟨rfl, by omega, by omega⟩, show 0 + (k - 0) = k by omega]
  · exact RTx_fr h4 (fun i => gX _ _ (by omega) (by omega)) (gX _ _ (by omega) (by omega)) (gM _ _ (by omega) (by omega)) (fun i => gM _ _ (by omega) (by omega))
theorem O_restore {n : Nat} {μ ν : hb_m} (h : RR μ ν) (hn : 2147483648 ≤ n) : Op (fX5_restore n μ) (fX6_restore n ν) := by
  unfold fX5_restore fX6_restore
  obtain ⟨-, -, ⟨s1, s2⟩, -⟩ := id h
  rw [s1]
  by_cases hz : rd ν 0 4 = 0
  · rw [if_pos hz, if_pos hz]
    exact op_mk rfl h
  · rw [if_neg hz, if_neg hz]
    obtain ⟨μ1, ν1, e1, e2, hR, x, m⟩ := RR_act h hn
    obtain ⟨h1, h2, h3, h4⟩ := id hR
    rcases h3.2 with h3' | ⟨h3', hS⟩
    · exact absurd h3' (by rw [m _ _ (by omega) (by omega)]; exact hz)
    obtain ⟨μ2, e3, c1⟩ := X_cpH (n := n) (B := 0) (C := 38) (μ := μ1) (by omega) (Sim_bool hS) hn
    obtain ⟨ν2, e4, d1, -⟩ := M_lay (n := n) (p := 0) (q := 0) (μ := ν1) hm_n3 hm_n1 (by omega) (by omega) (by omega) (by omega) (by omega) hn
    rw [e1, e2, bv_some, bv_some, e3, show (0 : Int32) = nI 0 from rfl, e4, bv_some, bv_some, show (2 : Int32).toNatClampNeg = 2 from rfl, show ib 2 415 = true from by decide, if_pos rfl]
    have hS2 : Sim μ2 0 (rd ν2 1) := by
      refine Sim_row (Sim_cp hS c1) (fun k hk => ?_)
      rw [d1, if_pos ⟨rfl, by omega, by omega⟩, show 0 + (k - 0) = k by omega]
    have hR2 : RR μ2 ν2 := RR_now hR (fun k i hk => c1.2.2.1 k i (by omega)) (fun k i hk => by rw [d1, if_neg (by omega)]) hS2
    obtain ⟨F, D, Y, hi, hr⟩ := hS2
    exact op_mk (hr.1.2.2.2.trans hi.2.1.2.2.symm) hR2
theorem O_undo {n : Nat} {μ ν : hb_m} (h : RR μ ν) (hn : 2147483648 ≤ n) : Op (fX5_undo n μ) (fX6_undo n ν) := by
  obtain ⟨h1, ⟨hh, o, b1, b2, b3, b4, b5, b6⟩, h3, h4⟩ := id h
  unfold fX5_undo fX6_undo fX1_removeLatest
  rw [b4, b5]
  by_cases hz : hh = 0
  · subst hz
    rw [if_neg (show ¬ (1 : Int32) ≤ nI 0 by decide), if_pos (show nI 0 = (0 : Int32) from rfl), br_none]
    exact op_mk rfl h
  · obtain ⟨g, rfl⟩ : ∃ g, hh = g + 1 := ⟨hh - 1, by omega⟩
    rw [if_pos (show (1 : Int32) ≤ nI (g + 1) by rw [li1, le_ok (by omega) (by omega)]; omega), if_neg (show ¬ nI (g + 1) = (0 : Int32) by rw [li0, eq_ok (by omega) (by omega)]; omega), li1, sub_ok (by omega), show g + 1 - 1 = g by omega]
    have x1 : rd (wr μ 229 2 (nI g)) 229 1 = nI o := by rw [rd_wr, if_neg (by omega)]; exact b3
    have x2 : rd (wr μ 229 2 (nI g)) 229 2 = nI g := by rw [rd_wr, if_pos ⟨rfl, rfl⟩]
    have x3 : rd (wr ν 0 2 (nI g)) 0 2 = nI g := by rw [rd_wr, if_pos ⟨rfl, rfl⟩]
    have hm4 : (o + g) % 4 < 4 := Nat.mod_lt _ (by omega)
    rw [x1, x2, x3, nI_add, rem4 (by omega), ib_ok hm4 (by omega), if_pos rfl, cl_ok (by omega), br_some]
    have hS : Sim (wr μ 229 2 (nI g)) (76 + 38 * ((o + g) % 4)) (fun k => rd ν 2 (415 * g + k)) := Sim_fr (b6 g (by omega)) (fun k i _ _ _ => by rw [rd_wr, if_neg (by omega)])
    obtain ⟨μ2, e3, c1⟩ := X_cpH (n := n) (B := 0) (C := 76 + 38 * ((o + g) % 4)) (μ := wr μ 229 2 (nI g)) (by omega) (Sim_bool hS) hn
    obtain ⟨ν2, e4, d1, -⟩ := M_lay (n := n) (p := 415 * g) (q := 0) (μ := wr ν 0 2 (nI g)) hm_n2 hm_n1 (by omega) (by omega) (by omega) (by omega) (by omega) hn
    rw [e3, bv_some, show (415 : Int32) * nI g = nI (415 * g) by rw [li415, pk_mul], show (0 : Int32) = nI 0 from rfl, e4, bv_some]
    have gX : ∀ k i, 38 ≤ k → (k ≠ 229 ∨ i ≠ 2) → rd μ2 k i = rd μ k i := fun k i k1 k2 => by rw [c1.2.2.1 k i (by omega), rd_wr, if_neg (by omega)]
    have gM : ∀ k i, k ≠ 1 → (k ≠ 0 ∨ i ≠ 2) → rd ν2 k i = rd ν k i := fun k i k1 k2 => by rw [d1, if_neg (by omega), rd_wr, if_neg (by omega)]
    have y2 : rd μ2 229 2 = nI g := by rw [c1.2.2.1 _ _ (by omega)]; exact x2
    have y3 : rd ν2 0 2 = nI g := by rw [d1, if_neg (by omega)]; exact x3
    refine op_mk (y2.trans y3.symm) ⟨?_, ⟨g, o, by omega, b2, ?_, y2, y3, fun i hi => ?_⟩, ?_, ?_⟩
    · refine Sim_row (Sim_cp hS c1) (fun k hk => ?_)
      rw [d1, if_pos ⟨rfl, by omega, by omega⟩, show 415 * g + (k - 0) = 415 * g + k by omega, rd_wr, if_neg (by omega)]
    · rw [gX _ _ (by omega) (by omega)]; exact b3
    · have hm4' : (o + i) % 4 < 4 := Nat.mod_lt _ (by omega)
      exact Sim_row (Sim_fr (b6 i (by omega)) (fun k j k1 k2 _ => gX _ _ (by omega) (by omega))) (fun k _ => gM _ _ (by omega) (by omega))
    · exact RSn_fr h3 (fun k i _ _ => gX _ _ (by omega) (by omega)) (gX _ _ (by omega) (by omega)) (gM _ _ (by omega) (by omega)) (fun i => gM _ _ (by omega) (by omega))
    · exact RTx_fr h4 (fun i => gX _ _ (by omega) (by omega)) (gX _ _ (by omega) (by omega)) (gM _ _ (by omega) (by omega)) (fun i => gM _ _ (by omega) (by omega))

/-! REFUSALS, one behind another -/
set_option maxHeartbeats 4000000 in
theorem refAny0 {n c : Nat} {μ ν : hb_m} (hn : 2147483648 ≤ n) (hS : Sim μ 0 (rd ν 1)) (hJ : JJ c μ) (hc : nI c ≤ 99999) : ∃ μ', fL_refusesAny0 n μ = some (1, μ') ∧ QF μ μ' := by
  obtain ⟨F, D, Y, h⟩ := FC_of hS hJ hc
  obtain ⟨μ', e8, q⟩ := u_gr8 hS hn
  have h' := FC_QF h q
  have hcn : ∀ j : Nat, j < 15 → ¬ (-1 : Int32) = nI j := by decide
  refine ⟨μ', ?_, q⟩
  unfold fL_refusesAny0
  rw [u_aF (Or.inl (by decide)), bi_some, if_pos rfl]
  rw [u_aDn h (Or.inl (by decide)), bi_some, if_pos rfl]
  rw [u_aDb h (Or.inl (by decide)), bi_some, if_pos rfl]
  rw [u_setw (Or.inl (by decide)), bi_some, if_pos rfl]
  rw [u_setv (p := 0) ⟨by decide, by decide, by decide⟩ (Or.inl (by decide)), bi_some, if_pos rfl]
  rw [u_setv (p := 1) ⟨by decide, by decide, by decide⟩ (Or.inl (by decide)), bi_some, if_pos rfl]
  rw [u_setv (p := 2) ⟨by decide, by decide, by decide⟩ (Or.inl (by decide)), bi_some, if_pos rfl]
  rw [show ((4 : Int32) + (0 : Int32)) = 4 from by decide, cn4, bi_some, u_set0 h, bi_some, if_pos rfl]
  rw [u_rdn h (Or.inl (by decide)), bi_some, if_pos rfl]
  rw [u_rdb h (Or.inl (by decide)), bi_some, if_pos rfl]
  rw [u_dv3 h, bi_some, u_rde h, bi_some, if_pos rfl]
  rw [u_mkn h (Or.inl (by decide)), bi_some, if_pos rfl]
  rw [u_dv4 h, bi_some]
  rcases h.2.2.2.2.2.2.1 with z | z
  · rw [z, if_neg (by decide), u_mke h z, bi_some, if_pos rfl]
    rw [u_mvn h (Or.inl (by decide)), bi_some, if_pos rfl]
    rw [u_mvb h (Or.inl (by decide)), bi_some, if_pos rfl]
    rw [u_btn h (Or.inl (by decide)), bi_some, if_pos rfl]
    rw [u_btb h (Or.inl (by decide)), bi_some, if_pos rfl]
    rw [u_con h (Or.inl (by decide)), bi_some, if_pos rfl]
    rw [u_fln h (Or.inl (by decide)), bi_some, if_pos rfl]
    rw [u_flb h (Or.inl (by decide)), bi_some, if_pos rfl]
    rw [u_dvn h (Or.inl (by decide)), bi_some, if_pos rfl]
    rw [u_dvb h (Or.inl (by decide)), bi_some, if_pos rfl]
    rw [u_drn h (Or.inl (by decide)), bi_some, if_pos rfl]
    rw [u_bln h (Or.inl (by decide)), bi_some, if_pos rfl]
    rw [u_unn h (Or.inl (by decide)), bi_some, if_pos rfl]
    rw [u_grb, bi_some, if_pos rfl]
    rw [e8, bi_some, if_pos rfl]
    rw [u_bin h' (Or.inl (by decide)), bi_some, if_pos rfl]
    rw [u_bib h' (Or.inl (by decide)), bi_some, if_pos rfl]
    rw [u_bsn h' (Or.inl (by decide)), bi_some, if_pos rfl]
    rw [u_cnb hcn, bi_some, if_pos rfl]
    rw [cn0, bi_some, h'.1.2.2]
    by_cases hY0 : Y = 0
    · subst hY0
      rw [if_pos (by decide)]
    · have hY : 1 ≤ Y := by omega
      obtain ⟨r, e5, n5⟩ := u_aF5 (n := n) h' hY
      rw [if_neg (by rw [li0, eq_ok (by have := h.2.2.2.1; omega) (by omega)]; exact hY0)]
      rw [u_cod h' hY (Or.inl (by decide)), bi_some, if_pos rfl]
      rw [u_cob h' hY (Or.inl (by decide)), bi_some, if_pos rfl]
      rw [u_un0 h' hY, bi_some, u_coe h' hY, bi_some, if_pos rfl]
      rw [u_blf h' hY (Or.inl (by decide)), bi_some, if_pos rfl]
      rw [u_und h' hY (Or.inl (by decide)), bi_some, if_pos rfl]
      rw [e5, bi_some, if_neg n5]
  · rw [z, if_pos rfl, u_mke h z, bi_some, if_pos rfl]
    rw [u_mvn h (Or.inl (by decide)), bi_some, if_pos rfl]
    rw [u_mvb h (Or.inl (by decide)), bi_some, if_pos rfl]
    rw [u_btn h (Or.inl (by decide)), bi_some, if_pos rfl]
    rw [u_btb h (Or.inl (by decide)), bi_some, if_pos rfl]
    rw [u_con h (Or.inl (by decide)), bi_some, if_pos rfl]
    rw [u_fln h (Or.inl (by decide)), bi_some, if_pos rfl]
    rw [u_flb h (Or.inl (by decide)), bi_some, if_pos rfl]
    rw [u_dvn h (Or.inl (by decide)), bi_some, if_pos rfl]
    rw [u_dvb h (Or.inl (by decide)), bi_some, if_pos rfl]
    rw [u_drn h (Or.inl (by decide)), bi_some, if_pos rfl]
    rw [u_bln h (Or.inl (by decide)), bi_some, if_pos rfl]
    rw [u_unn h (Or.inl (by decide)), bi_some, if_pos rfl]
    rw [u_grb, bi_some, if_pos rfl]
    rw [e8, bi_some, if_pos rfl]
    rw [u_bin h' (Or.inl (by decide)), bi_some, if_pos rfl]
    rw [u_bib h' (Or.inl (by decide)), bi_some, if_pos rfl]
    rw [u_bsn h' (Or.inl (by decide)), bi_some, if_pos rfl]
    rw [u_cnb hcn, bi_some, if_pos rfl]
    rw [cn0, bi_some, h'.1.2.2]
    by_cases hY0 : Y = 0
    · subst hY0
      rw [if_pos (by decide)]
    · have hY : 1 ≤ Y := by omega
      obtain ⟨r, e5, n5⟩ := u_aF5 (n := n) h' hY
      rw [if_neg (by rw [li0, eq_ok (by have := h.2.2.2.1; omega) (by omega)]; exact hY0)]
      rw [u_cod h' hY (Or.inl (by decide)), bi_some, if_pos rfl]
      rw [u_cob h' hY (Or.inl (by decide)), bi_some, if_pos rfl]
      rw [u_un0 h' hY, bi_some, u_coe h' hY, bi_some, if_pos rfl]
      rw [u_blf h' hY (Or.inl (by decide)), bi_some, if_pos rfl]
      rw [u_und h' hY (Or.inl (by decide)), bi_some, if_pos rfl]
      rw [e5, bi_some, if_neg n5]
set_option maxHeartbeats 4000000 in
theorem refAny1 {n c : Nat} {μ ν : hb_m} (hn : 2147483648 ≤ n) (hS : Sim μ 0 (rd ν 1)) (hJ : JJ c μ) (hc : nI c ≤ 99999) : ∃ μ', fL_refusesAny1 n μ = some (1, μ') ∧ QF μ μ' := by
  obtain ⟨F, D, Y, h⟩ := FC_of hS hJ hc
  obtain ⟨μ', e8, q⟩ := u_gr8 hS hn
  have h' := FC_QF h q
  have hcn : ∀ j : Nat, j < 15 → ¬ (15 : Int32) = nI j := by decide
  refine ⟨μ', ?_, q⟩
  unfold fL_refusesAny1
  rw [cn1, bi_some]
  rw [cn2, bi_some]
  rw [cn0, bi_some]
  rw [h.1.1, h.1.2.1, h.1.2.2]
  rw [u_aF (Or.inr ⟨by decide, by decide⟩), bi_some, if_pos rfl]
  rw [u_aDn h (Or.inr (Int32.le_refl _)), bi_some, if_pos rfl]
  rw [u_aDb h (Or.inr ⟨by decide, by decide⟩), bi_some, if_pos rfl]
  rw [u_setw (Or.inr ⟨by decide, by decide⟩), bi_some, if_pos rfl]
  rw [u_setv (p := 0) ⟨by decide, by decide, by decide⟩ (Or.inr ⟨by decide, by decide⟩), bi_some, if_pos rfl]
  rw [u_setv (p := 1) ⟨by decide, by decide, by decide⟩ (Or.inr ⟨by decide, by decide⟩), bi_some, if_pos rfl]
  rw [u_setv (p := 2) ⟨by decide, by decide, by decide⟩ (Or.inr ⟨by decide, by decide⟩), bi_some, if_pos rfl]
  rw [show ((4 : Int32) + (1 : Int32)) = 5 from by decide, cn5, bi_some, u_set1 h, bi_some, if_pos rfl]
  rw [u_rdn h (Or.inr (Int32.le_refl _)), bi_some, if_pos rfl]
  rw [u_rdb h (Or.inr ⟨by decide, by decide⟩), bi_some, if_pos rfl]
  rw [u_dv3 h, bi_some, u_rde h, bi_some, if_pos rfl]
  rw [u_mkn h (Or.inr (Int32.le_refl _)), bi_some, if_pos rfl]
  rw [u_dv4 h, bi_some]
  rcases h.2.2.2.2.2.2.1 with z | z
  · rw [z, if_neg (by decide), u_mke h z, bi_some, if_pos rfl]
    rw [u_mvn h (Or.inr (Int32.le_refl _)), bi_some, if_pos rfl]
    rw [u_mvb h (Or.inr ⟨by decide, by decide⟩), bi_some, if_pos rfl]
    rw [u_btn h (Or.inr (Int32.le_refl _)), bi_some, if_pos rfl]
    rw [u_btb h (Or.inr ⟨by decide, by decide⟩), bi_some, if_pos rfl]
    rw [u_con h (Or.inr (Int32.le_refl _)), bi_some, if_pos rfl]
    rw [u_fln h (Or.inr (Int32.le_refl _)), bi_some, if_pos rfl]
    rw [u_flb h (Or.inr ⟨by decide, by decide⟩), bi_some, if_pos rfl]
    rw [u_dvn h (Or.inr (Int32.le_refl _)), bi_some, if_pos rfl]
    rw [u_dvb h (Or.inr ⟨by decide, by decide⟩), bi_some, if_pos rfl]
    rw [u_drn h (Or.inr (Int32.le_refl _)), bi_some, if_pos rfl]
    rw [u_bln h (Or.inr (Int32.le_refl _)), bi_some, if_pos rfl]
    rw [u_unn h (Or.inr (Int32.le_refl _)), bi_some, if_pos rfl]
    rw [u_grb, bi_some, if_pos rfl]
    rw [e8, bi_some, if_pos rfl]
    rw [u_bin h' (Or.inr (Int32.le_refl _)), bi_some, if_pos rfl]
    rw [u_bib h' (Or.inr ⟨by decide, by decide⟩), bi_some, if_pos rfl]
    rw [u_bsn h' (Or.inr (Int32.le_refl _)), bi_some, if_pos rfl]
    rw [u_cnb hcn, bi_some, if_pos rfl]
    rw [cn0, bi_some, h'.1.2.2]
    by_cases hY0 : Y = 0
    · subst hY0
      rw [if_pos (by decide)]
    · have hY : 1 ≤ Y := by omega
      obtain ⟨r, e5, n5⟩ := u_aF5 (n := n) h' hY
      rw [if_neg (by rw [li0, eq_ok (by have := h.2.2.2.1; omega) (by omega)]; exact hY0)]
      rw [u_cod h' hY (Or.inr (Int32.le_refl _)), bi_some, if_pos rfl]
      rw [u_cob h' hY (Or.inr ⟨by decide, by decide⟩), bi_some, if_pos rfl]
      rw [u_un0 h' hY, bi_some, u_coe h' hY, bi_some, if_pos rfl]
      rw [u_blf h' hY (Or.inr (Int32.le_refl _)), bi_some, if_pos rfl]
      rw [u_und h' hY (Or.inr (Int32.le_refl _)), bi_some, if_pos rfl]
      rw [e5, bi_some, if_neg n5]
  · rw [z, if_pos rfl, u_mke h z, bi_some, if_pos rfl]
    rw [u_mvn h (Or.inr (Int32.le_refl _)), bi_some, if_pos rfl]
    rw [u_mvb h (Or.inr ⟨by decide, by decide⟩), bi_some, if_pos rfl]
    rw [u_btn h (Or.inr (Int32.le_refl _)), bi_some, if_pos rfl]
    rw [u_btb h (Or.inr ⟨by decide, by decide⟩), bi_some, if_pos rfl]
    rw [u_con h (Or.inr (Int32.le_refl _)), bi_some, if_pos rfl]
    rw [u_fln h (Or.inr (Int32.le_refl _)), bi_some, if_pos rfl]
    rw [u_flb h (Or.inr ⟨by decide, by decide⟩), bi_some, if_pos rfl]
    rw [u_dvn h (Or.inr (Int32.le_refl _)), bi_some, if_pos rfl]
    rw [u_dvb h (Or.inr ⟨by decide, by decide⟩), bi_some, if_pos rfl]
    rw [u_drn h (Or.inr (Int32.le_refl _)), bi_some, if_pos rfl]
    rw [u_bln h (Or.inr (Int32.le_refl _)), bi_some, if_pos rfl]
    rw [u_unn h (Or.inr (Int32.le_refl _)), bi_some, if_pos rfl]
    rw [u_grb, bi_some, if_pos rfl]
    rw [e8, bi_some, if_pos rfl]
    rw [u_bin h' (Or.inr (Int32.le_refl _)), bi_some, if_pos rfl]
    rw [u_bib h' (Or.inr ⟨by decide, by decide⟩), bi_some, if_pos rfl]
    rw [u_bsn h' (Or.inr (Int32.le_refl _)), bi_some, if_pos rfl]
    rw [u_cnb hcn, bi_some, if_pos rfl]
    rw [cn0, bi_some, h'.1.2.2]
    by_cases hY0 : Y = 0
    · subst hY0
      rw [if_pos (by decide)]
    · have hY : 1 ≤ Y := by omega
      obtain ⟨r, e5, n5⟩ := u_aF5 (n := n) h' hY
      rw [if_neg (by rw [li0, eq_ok (by have := h.2.2.2.1; omega) (by omega)]; exact hY0)]
      rw [u_cod h' hY (Or.inr (Int32.le_refl _)), bi_some, if_pos rfl]
      rw [u_cob h' hY (Or.inr ⟨by decide, by decide⟩), bi_some, if_pos rfl]
      rw [u_un0 h' hY, bi_some, u_coe h' hY, bi_some, if_pos rfl]
      rw [u_blf h' hY (Or.inr (Int32.le_refl _)), bi_some, if_pos rfl]
      rw [u_und h' hY (Or.inr (Int32.le_refl _)), bi_some, if_pos rfl]
      rw [e5, bi_some, if_neg n5]
theorem refused_1 {n c : Nat} {μ ν : hb_m} (hn : 2147483648 ≤ n) (hS : Sim μ 0 (rd ν 1)) (hJ : JJ c μ) (hc : nI c ≤ 99999) : ∃ μ', fL_refused n μ = some (1, μ') ∧ QF μ μ' := by
  obtain ⟨h, hd⟩ := DG_ex hn hS
  obtain ⟨m1, e1, q1⟩ := hd μ hS
  obtain ⟨m2, e2, q2⟩ := refAny0 hn (Sim_QF hS q1) (JJ_QF hJ q1) hc
  have q12 := QF_tr q1 q2
  obtain ⟨m3, e3, q3⟩ := refAny1 hn (Sim_QF hS q12) (JJ_QF hJ q12) hc
  have q13 := QF_tr q12 q3
  obtain ⟨m4, e4, q4⟩ := hd m3 (Sim_QF hS q13)
  have q14 := QF_tr q13 q4
  refine ⟨m4, ?_, q14⟩
  unfold fL_refused
  have e5 : rd m4 229 2 = rd m1 229 2 := (q14.1 229 2 (by omega)).trans (q1.1 229 2 (by omega)).symm
  have e6 : lg_cmp h h = 0 := (lg_cmp_eq h h).mpr rfl
  rw [e1, bl_some, cn13, bi_some, e2, bi_some, if_neg (by decide), e3, bi_some, if_neg (by decide), e4, bl_some, if_pos e6, cn13, bi_some, if_pos e5]

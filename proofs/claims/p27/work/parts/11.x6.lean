/-! THE CLASS, PURE: units of the open year -/
theorem X_cY_n {n B Y : Nat} {p : Int32} {μ : hb_m} (hY : rd μ B 10 = nI Y) (h : p < 0 ∨ nI Y ≤ p) : fX2_closedYear n B p μ = some (none, μ) := by
  unfold fX2_closedYear
  by_cases h0 : p < 0
  · rw [if_pos h0]
  · rw [if_neg h0, hY, if_pos (h.resolve_left h0)]
theorem X_cY_y {n B Y y : Nat} {μ : hb_m} (hY : rd μ B 10 = nI Y) (hY4 : Y ≤ 4) (h : y < Y) : fX2_closedYear n B (nI y) μ = some (some (B + 14 + 6 * y), μ) := by
  unfold fX2_closedYear
  rw [if_neg (nI_pos (by omega)), hY, if_neg (by rw [le_ok (by omega) (by omega)]; omega), ib_ok (by omega) (by omega), if_pos rfl, cl_ok (by omega)]
theorem X_est {n B F D Y d : Nat} {U Fs : Int32} {ρ : Nat → Int32} {μ : hb_m} (hi : Inv ρ F D Y) (h10 : rd μ B 10 = nI Y) (h7 : rd μ B 7 = ρ 5) (h3 : rd μ (B + 3) d = ρ (32 + 5 * d)) (hy : ∀ y, y < Y → RepY μ (B + 14 + 6 * y) ρ y F) (hd : d < D) (hU : U = p_sU ρ D) (hFs : Fs = p_sF ρ D) : fX2_estimate n B (nI d) U Fs μ = some (if ρ 5 = 1 ∧ 0 < Y ∧ nI d < ρ (62 + 71 * Y) then ρ (63 + 71 * Y + d) else p_est ρ D d, μ) := by
  have hD := hi.1.2.1
  have hY4 := hi.1.2.2
  obtain ⟨w, ew, hw⟩ := sF_b hi
  have hle : (Fs ≤ 0) = (w = 0) := by rw [hFs, ew, li0, le_ok (by omega) (by omega)]; exact propext ⟨fun h => by omega, fun h => by omega⟩
  have heq : (Fs = 0) = (w = 0) := by rw [hFs, ew, li0, eq_ok (by omega) (by omega)]
  have hest : ∀ {α : Type} (x : α), (if Fs ≤ 0 then (some ((0 : Int32), x)) else (if ib (nI d) 20 then if Fs = 0 then none else some ((rd μ (B + 3) (nI d).toNatClampNeg * U / Fs), x) else none)) = some (p_est ρ D d, x) := by
    intro α x
    rw [ib_ok (by omega) (by omega), if_pos rfl, cl_ok (by omega), h3, hU]
    unfold p_est
    by_cases h0 : w = 0
    · rw [if_pos (by rw [hle]; exact h0), if_pos (by rw [← hFs, heq]; exact h0)]
    · rw [if_neg (by rw [hle]; exact h0), if_neg (by rw [heq]; exact h0), if_neg (by rw [← hFs, heq]; exact h0), hFs]
  unfold fX2_estimate
  rw [h10]
  by_cases hy0 : Y = 0
  · subst hy0
    rw [X_cY_n h10 (Or.inl (by decide)), br_none, h7, hest]
    rw [if_neg (fun q : ρ 5 = 1 ∧ 0 < 0 ∧ nI d < ρ (62 + 71 * 0) => absurd q.2.1 (by omega))]
    split <;> rfl
  · rw [show nI Y - 1 = nI (Y - 1) from by rw [li1]; exact sub_ok (by omega), X_cY_y h10 hY4 (by omega), br_some, h7]
    obtain ⟨-, -, a2, a3, -⟩ := hy (Y - 1) (by omega)
    rw [show 133 + 71 * (Y - 1) = 62 + 71 * Y by omega] at a2 a3
    have a3' := a3 d (by omega)
    rw [show 134 + 71 * (Y - 1) + d = 63 + 71 * Y + d by omega] at a3'
    by_cases h5 : ρ 5 = 1
    · rw [if_pos h5, X_hasDev, bi_some, a2]
      by_cases hl : nI d < ρ (62 + 71 * Y)
      · rw [if_pos (show 0 ≤ nI d ∧ nI d < ρ (62 + 71 * Y) from ⟨nI_pos' (by omega), hl⟩), if_neg (by decide), ib_ok (by omega) (by omega), if_pos rfl, cl_ok (by omega), a3' hl, if_pos ⟨h5, by omega, hl⟩]
      · rw [if_neg (show ¬ (0 ≤ nI d ∧ nI d < ρ (62 + 71 * Y)) from fun q => hl q.2), if_pos rfl, hest, if_neg (fun q => hl q.2.2)]
    · rw [if_neg h5, hest, if_neg (fun q => h5 q.1)]
theorem X_cU {n B F D Y : Nat} {ρ : Nat → Int32} {μ : hb_m} (hB : hx_H B) (hi : Inv ρ F D Y) (hr : Rep μ B ρ F D Y) (hn : 2147483648 ≤ n) : ∃ μ', fX2_countUnits n B μ = some μ' ∧ sx [B + 11] μ μ' ∧ ∀ d, d < D → rd μ' (B + 8 + 3) d = p_uN ρ D Y d := by
  have hl := hx_lt hB
  have hD20 := hi.1.2.1
  obtain ⟨⟨a0, a1, a2, a3⟩, ⟨b0, b1, b2⟩, c1, c2, c3, d1, d2, d3, d4, y1, z1⟩ := hr
  unfold fX2_countUnits
  have hx : ∀ {s : hb_m}, sx [B + 11] μ s → ∀ k i, k ≠ B + 11 → rd s k i = rd μ k i := fun h k i hk => (h k (by simpa using hk)).1 i
  obtain ⟨⟨f1, u1, m1⟩, ⟨g1, g2, g3, g4⟩, e⟩ := lo (S := Int32 × Int32 × hb_m) (fun f i s => lX2_countUnits_6 n B (fun x3_6 x2_6 x1_6 m6 => lX2_countUnits_88 n B x2_6 x1_6 (fun x3_88 m88 => some m88) n 0 m6) f (nI i) s.1 s.2.1 s.2.2) D (fun s => lX2_countUnits_88 n B s.1 s.2.1 (fun x3_88 m88 => some m88) n 0 s.2.2) (fun i s => s.1 = p_sF ρ i ∧ s.2.1 = p_sU ρ i ∧ sx [B + 11] μ s.2.2 ∧ ∀ d, d < i → ρ (35 + 5 * d) = 0 → rd s.2.2 (B + 8 + 3) d = p_snd ρ d)
    (fun f s hI => by
      obtain ⟨f1, u1, m1⟩ := s
      obtain ⟨g1, g2, g3, g4⟩ := hI
      rw [lX2_countUnits_6]
      dsimp only at g3 ⊢
      rw [hx g3 _ _ (by omega), b2, if_pos (by rw [le_ok (by omega) (by omega)]; omega)])
    (fun f i s hi' hI => by
      obtain ⟨f1, u1, m1⟩ := s
      obtain ⟨g1, g2, g3, g4⟩ := hI
      dsimp only at g1 g2 g3 g4 ⊢
      subst g1
      subst g2
      rw [lX2_countUnits_6]
      rw [hx g3 _ _ (by omega), b2, if_neg (by rw [le_ok (by omega) (by omega)]; omega), ib_ok (by omega) (by omega), if_pos rfl, cl_ok (by omega), hx g3 _ _ (by omega), d4 i (by omega), if_pos hi']
      by_cases h0 : ρ (35 + 5 * i) = 0
      · refine ⟨(p_sF ρ (i + 1), p_sU ρ (i + 1), wr m1 (B + 8 + 3) i (p_snd ρ i)), ⟨rfl, rfl, sx_tr g3 (sx_wr (by simp)), fun d hd hd0 => ?_⟩, ?_⟩
        · dsimp only
          rw [rd_wr]
          by_cases hdi : d = i
          · rw [if_pos ⟨rfl, hdi⟩, hdi]
          · rw [if_neg (fun q => hdi q.2)]; exact g4 d (by omega) hd0
        · rw [if_pos h0, if_pos rfl, if_pos rfl, if_pos rfl, if_pos rfl, if_pos rfl, if_pos rfl, rd_wr, if_neg (by omega), rd_wr, if_pos ⟨rfl, rfl⟩, hx g3 (B + 3) _ (by omega), hx g3 (B + 4) _ (by omega), hx g3 (B + 5) _ (by omega), (d1 i hi').2, d2 i (by omega), d3 i (by omega), if_pos hi', if_pos hi', li1, nI_add]
          simp only [p_sF, p_sU, sI, h0, if_true]
          rfl
      · refine ⟨(p_sF ρ (i + 1), p_sU ρ (i + 1), m1), ⟨rfl, rfl, g3, fun d hd hd0 => ?_⟩, ?_⟩
        · have hdi : d ≠ i := fun q => h0 (q ▸ hd0)
          exact g4 d (by omega) hd0
        · rw [if_neg h0, li1, nI_add]
          simp only [p_sF, p_sU, sI, h0, if_false, Int32.add_zero])
    n 0 (0, 0, μ) (by omega) (by omega) ⟨rfl, rfl, sx_rf, fun d hd => by omega⟩
  dsimp only at g1 g2 g3 g4 e
  subst g1
  subst g2
  obtain ⟨m2, ⟨k1, k2⟩, e2⟩ := lo (S := hb_m) (fun f i s => lX2_countUnits_88 n B (p_sF ρ D) (p_sU ρ D) (fun x3_88 m88 => some m88) f (nI i) s) D (fun s => some s) (fun i s => sx [B + 11] μ s ∧ ∀ d, d < D → (ρ (35 + 5 * d) = 0 ∨ d < i) → rd s (B + 8 + 3) d = p_uN ρ D Y d)
    (fun f s hI => by
      rw [lX2_countUnits_88]
      rw [hx hI.1 _ _ (by omega), b2, if_pos (by rw [le_ok (by omega) (by omega)]; omega)])
    (fun f i s hi' hI => by
      obtain ⟨k1, k2⟩ := hI
      rw [lX2_countUnits_88]
      rw [hx k1 _ _ (by omega), b2, if_neg (by rw [le_ok (by omega) (by omega)]; omega), ib_ok (by omega) (by omega), if_pos rfl, cl_ok (by omega), hx k1 _ _ (by omega), d4 i (by omega), if_pos hi']
      by_cases h0 : ρ (35 + 5 * i) = 0
      · refine ⟨s, ⟨k1, fun d hd hd0 => k2 d hd ?_⟩, ?_⟩
        · by_cases hdi : d = i
          · exact Or.inl (hdi ▸ h0)
          · rcases hd0 with q | q
            · exact Or.inl q
            · exact Or.inr (by omega)
        · rw [if_pos h0, li1, nI_add]
      · have hes := X_est (n := n) (B := B) (μ := s) (d := i) (U := p_sU ρ D) (Fs := p_sF ρ D) hi (by rw [hx k1 _ _ (by omega)]; exact a3) (by rw [hx k1 _ _ (by omega)]; exact a1) (by rw [hx k1 _ _ (by omega)]; exact (d1 i hi').2) (fun y hy => RepY_fr (y1 y hy) hi.1.1 (fun q j hq => hx k1 _ _ (by unfold vY at hq; omega))) hi' rfl rfl
        refine ⟨wr s (B + 8 + 3) i (p_uN ρ D Y i), ⟨sx_tr k1 (sx_wr (by simp)), fun d hd hd0 => ?_⟩, ?_⟩
        · rw [rd_wr]
          by_cases hdi : d = i
          · rw [if_pos ⟨rfl, hdi⟩, hdi]
          · rw [if_neg (fun q => hdi q.2)]
            refine k2 d hd ?_
            rcases hd0 with q | q
            · exact Or.inl q
            · exact Or.inr (by omega)
        · rw [if_neg h0, hes, bi_some, if_pos rfl, li1, nI_add]
          rw [p_uN, if_neg h0]
          rfl)
    n 0 m1 (by omega) (by omega) ⟨g3, fun d hd hd0 => by
      have h0 : ρ (35 + 5 * d) = 0 := hd0.resolve_right (by omega)
      rw [g4 d hd h0, p_uN, if_pos h0]⟩
  exact ⟨m2, e.trans e2, k1, fun d hd => k2 d hd (Or.inr hd)⟩
theorem X_dO {n F D Y : Nat} {ρ : Nat → Int32} {μ : hb_m} (hi : Inv ρ F D Y) (hr : Rep μ 0 ρ F D Y) (hn : 2147483648 ≤ n) : ∃ μ', fX5_drawUpOpenYear n μ = some μ' ∧ sx [11, 236, 237, 238, 240] μ μ' ∧ (∀ i, i < F → rd μ' 237 i = p_bse ρ F (ρ 3) (ρ 4) i ∧ rd μ' 238 i = p_usd ρ F (p_fU (p_uN ρ D Y) ρ D) (ρ 3) (ρ 4) i) ∧ (∀ f, f < 8 → rd μ' 236 f = p_fU (p_uN ρ D Y) ρ D f) ∧ ∀ d, d < D → rd μ' 11 d = p_uN ρ D Y d := by
  have hat : ∀ d, d < D → ∃ a, a < F ∧ ρ (31 + 5 * d) = nI a := by
    obtain ⟨-, -, -, -, -, q, -⟩ := hi
    exact q
  have hF8 := hi.1.1
  unfold fX5_drawUpOpenYear
  obtain ⟨m1, e1, s1, g1⟩ := X_cU hx_H0 hi hr hn
  rw [e1, bv_some]
  obtain ⟨⟨a0, a1, a2, a3⟩, ⟨b0, b1, b2⟩, c1, c2, c3, d1, d2, d3, d4, y1, z1⟩ := hr
  have hx : ∀ k i, k ≠ 11 → rd m1 k i = rd μ k i := fun k i hk => (s1 k (by simpa using hk)).1 i
  have hU := (fU_all (ρ := ρ) (u := p_uN ρ D Y) hF8 hi.1.2.1 (fun d hd => uN_b hi hd) hat).1
  obtain ⟨m2, e2, s2, g2, g3⟩ := X_dU (n := n) (F := F) (D := D) (B := 0) (C := 0 + 8) (ρ := ρ) (U := p_uN ρ D Y) (μ := m1) hx_H0 (by omega) (by rw [hx _ _ (by omega)]; exact a0) hF8 hi.2.2.1 (fun f hf => by rw [hx _ _ (by omega)]; exact c1 f hf) (by rw [hx _ _ (by omega)]; exact b2) hi.1.2.1 (fun d hd => by obtain ⟨a, ha, e⟩ := hat d hd; exact ⟨a, by omega, e⟩) (fun d hd => by rw [hx _ _ (by omega)]; exact (d1 d hd).1) g1 hU hn
  rw [e2, bv_some]
  rw [hx _ _ (by omega), hx _ _ (by omega), b0, b1] at g2
  refine ⟨m2, rfl, sx_tr (sx_mo s1 (by simp)) (sx_mo s2 (by simp)), g2, g3, fun d hd => ?_⟩
  rw [(s2 11 (by simp)).1]
  exact g1 d hd

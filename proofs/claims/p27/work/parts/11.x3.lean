/-! THE CLASS, PURE: shares -/
def gn (a : Nat → Int32) (F : Nat) : Prop := ∃ g : Nat → Nat, (∀ i, i < F → a i = nI (g i)) ∧ sN g F < 2147483648
def gp (a : Nat → Int32) (F : Nat) : Prop := ∃ g : Nat → Nat, (∀ i, i < F → a i = nI (g i)) ∧ 0 < sN g F ∧ sN g F < 2147483648
theorem sN_mem {g : Nat → Nat} : ∀ F i, i < F → g i ≤ sN g F
  | 0, i, h => by omega
  | F + 1, i, h => by
    simp only [sN]
    by_cases e : i = F
    · subst e; omega
    · have := sN_mem (g := g) F i (by omega)
      omega
theorem gp_all {a : Nat → Int32} {F : Nat} (h : gp a F) : (sI a F).toInt64 = p_all a F ∧ (1 : Int32) ≤ sI a F ∧ ¬ p_all a F = 0 := by
  obtain ⟨g, h1, h2, h3⟩ := h
  have h4 : ∀ i, i < F → a i = nI (g i) ∧ g i < 2147483648 := fun i hi => ⟨h1 i hi, by have := sN_mem (g := g) F i hi; omega⟩
  refine ⟨?_, ?_, p_all_ne h4 h2 h3⟩
  · rw [sI_nI F h1, p_all_lN F h4, nI_l (by omega)]
  · rw [sI_nI F h1, li1, le_ok (by omega) (by omega)]
    omega
theorem gn_pos {a : Nat → Int32} {F : Nat} (h : gn a F) (h0 : ¬ sI a F ≤ 0) : gp a F := by
  obtain ⟨g, h1, h3⟩ := h
  refine ⟨g, h1, ?_, h3⟩
  rw [sI_nI F h1, li0, le_ok (by omega) (by omega)] at h0
  omega
theorem gp_co {a b : Nat → Int32} {F : Nat} (h : gp a F) (h1 : ∀ i, i < F → b i = a i) : gp b F := by
  obtain ⟨g, h2, h3⟩ := h
  exact ⟨g, fun i hi => (h1 i hi).trans (h2 i hi), h3⟩
theorem gn_co {a b : Nat → Int32} {F : Nat} (h : gn a F) (h1 : ∀ i, i < F → b i = a i) : gn b F := by
  obtain ⟨g, h2, h3⟩ := h
  exact ⟨g, fun i hi => (h1 i hi).trans (h2 i hi), h3⟩
theorem gp_ar {ρ : Nat → Int32} {F : Nat} (hF : 1 ≤ F) (h8 : F ≤ 8) (h : ∀ f, f < F → rg (ρ (7 + 3 * f)) 1 200) : gp (fun f => ρ (7 + 3 * f)) F := by
  have h1 : sN (fun f => (ρ (7 + 3 * f)).toNatClampNeg) F ≤ F * 200 := sN_le F (fun i hi => (h i hi).2.2)
  refine ⟨fun f => (ρ (7 + 3 * f)).toNatClampNeg, fun i hi => (h i hi).1, ?_, by omega⟩
  exact sN_pos F 0 (by omega) (by have := (h 0 (by omega)).2.1; omega)
theorem X_gv {n c F : Nat} {μ : hb_m} (hc : hx_n c = 8) (h1F : 1 ≤ F) (h8 : F ≤ 8) (hn : 2147483648 ≤ n) : fX0_giveCoin n c (nI F) μ = some (wL (wr μ c (p_bs (rL μ 240) F) (rd μ c (p_bs (rL μ 240) F) + 1)) 240 (p_bs (rL μ 240) F) (-1)) := by
  unfold fX0_giveCoin
  have hb1 : p_bs (rL μ 240) 1 = 0 := p_bs1
  obtain ⟨⟨a, μ'⟩, ⟨h1, h2, h3⟩, e⟩ := lo (S := Int32 × hb_m) (fun f i s => lX0_giveCoin_5 n c (nI F) (fun x4_5 x3_5 m5 => if ib x3_5 (hx_n c) then if ib x3_5 (hx_n c) then if ib x3_5 8 then some (wL (wr m5 c x3_5.toNatClampNeg ((rd m5 c x3_5.toNatClampNeg) + 1)) 240 x3_5.toNatClampNeg (-1 : Int64)) else none else none else none) f (nI i) s.1 s.2) F (fun s => if ib s.1 (hx_n c) then if ib s.1 (hx_n c) then if ib s.1 8 then some (wL (wr s.2 c s.1.toNatClampNeg ((rd s.2 c s.1.toNatClampNeg) + 1)) 240 s.1.toNatClampNeg (-1 : Int64)) else none else none else none) (fun i s => s.1 = nI (p_bs (rL μ 240) i) ∧ s.2 = μ ∧ 1 ≤ i)
    (fun f s hI => by
      rw [lX0_giveCoin_5]
      rw [if_pos (by rw [le_ok (by omega) (by omega)]; omega)])
    (fun f i s hi hI => by
      obtain ⟨a, μ'⟩ := s
      obtain ⟨h1, rfl, h3⟩ := hI
      dsimp only at h1 ⊢
      subst h1
      have hb := p_bs_lt (r := rL μ' 240) i (by omega)
      refine ⟨(nI (p_bs (rL μ' 240) (i + 1)), μ'), ⟨rfl, rfl, by omega⟩, ?_⟩
      rw [lX0_giveCoin_5]
      rw [if_neg (by rw [le_ok (by omega) (by omega)]; omega), ib_ok (by omega) (by omega), if_pos rfl, ib_ok (by omega) (by omega), if_pos rfl, cl_ok (by omega), cl_ok (by omega), li1, nI_add]
      simp only [p_bs]
      split <;> rfl)
    n 1 (0, μ) (by omega) (by omega) ⟨by rw [hb1]; rfl, rfl, by omega⟩
  refine Eq.trans e ?_
  have hb := p_bs_lt (r := rL μ 240) F (by omega)
  rw [h1, h2, hc, ib_ok (by omega) (by omega), if_pos rfl, if_pos rfl, if_pos rfl, cl_ok (by omega)]
theorem X_shB {n F c2 c4 : Nat} {am v : Int32} {al : Int64} {μ : hb_m} {k : Int32 → Int32 → hb_m → Option hb_m} (h2 : hx_n c2 = 8) (h4 : hx_n c4 = 8) (hne : c2 ≠ c4) (h8 : F ≤ 8) (hv : v.toInt64 = al) (hal : ¬ al = 0) (hn : 2147483648 ≤ n) : ∃ μ', lX0_shareByParts_20 n am c2 (nI F) c4 v k n 0 am μ = k (nI F) (p_lf am (rd μ c2) al F) μ' ∧ sx [c4, 240] μ μ' ∧ ∀ i, i < F → rd μ' c4 i = p_g0 am (rd μ c2) al i ∧ rL μ' 240 i = p_r0 am (rd μ c2) al i := by
  have hc2 : ∀ s : hb_m, (∀ i, rd s c2 i = rd μ c2 i) → rd s c2 = rd μ c2 := fun s h => funext h
  obtain ⟨⟨a, μ'⟩, ⟨g1, g2, g2', g3⟩, e⟩ := lo (S := Int32 × hb_m) (fun f i s => lX0_shareByParts_20 n am c2 (nI F) c4 v k f (nI i) s.1 s.2) F (fun s => k (nI F) s.1 s.2) (fun i s => s.1 = p_lf am (rd μ c2) al i ∧ sx [c4, 240] μ s.2 ∧ (∀ j, rd s.2 c2 j = rd μ c2 j) ∧ ∀ j, j < i → rd s.2 c4 j = p_g0 am (rd μ c2) al j ∧ rL s.2 240 j = p_r0 am (rd μ c2) al j)
    (fun f s hI => by
      rw [lX0_shareByParts_20]
      rw [if_pos (by rw [le_ok (by omega) (by omega)]; omega)])
    (fun f i s hi hI => by
      obtain ⟨a, μ'⟩ := s
      obtain ⟨g1, g2, g2', g3⟩ := hI
      dsimp only at g1 g2 g2' g3 ⊢
      subst g1
      refine ⟨(p_lf am (rd μ c2) al (i + 1), wL (wr μ' c4 i (p_g0 am (rd μ c2) al i)) 240 i (p_r0 am (rd μ c2) al i)), ⟨rfl, sx_tr g2 (sx_tr (sx_wr (by simp)) (sx_wL (by simp))), fun j => ?_, fun j hj => ?_⟩, ?_⟩
      · rw [rd_wL, rd_wr, if_neg (fun q => hne q.1)]; exact g2' j
      · dsimp only
        by_cases hji : j = i
        · subst hji
          simp only [rd_wL, rd_wr, rL_wL, and_self, if_true]
        · have := g3 j (by omega)
          simp only [rd_wL, rd_wr, rL_wL, rL_wr, hji, and_false, if_false]
          exact this
      · rw [lX0_shareByParts_20]
        rw [if_neg (by rw [le_ok (by omega) (by omega)]; omega), h2, h4, ib_ok (by omega) (by omega), if_pos rfl, hv, if_neg hal, if_pos rfl, if_neg hal, if_pos rfl, if_pos rfl, cl_ok (by omega), g2' i, li1, nI_add, rd_wL, rd_wr, if_pos ⟨rfl, rfl⟩]
        rfl)
    n 0 (am, μ) (by omega) (by omega) ⟨rfl, sx_rf, fun _ => rfl, fun j hj => by omega⟩
  dsimp only at g1 g2 g3 e
  refine ⟨μ', ?_, g2, g3⟩
  refine Eq.trans e ?_
  rw [g1]
theorem X_shC {n F c2 c4 : Nat} {am v : Int32} {μ : hb_m} {g : Nat → Int32} {r : Nat → Int64} (h4 : hx_n c4 = 8) (h1F : 1 ≤ F) (h8 : F ≤ 8) (hg : p_ag F (rd μ c4, rL μ 240) (g, r)) (hn : 2147483648 ≤ n) : ∃ μ', lX0_shareByParts_80 n am c2 (nI F) c4 v (fun x7_80 m80 => some m80) n 0 μ = some μ' ∧ sx [c4, 240] μ μ' ∧ ∀ i, i < F → rd μ' c4 i = (p_it F g r v.toNatClampNeg).1 i := by
  have hv := cn_lt v
  obtain ⟨μ', ⟨h2, h3⟩, e⟩ := lo (S := hb_m) (fun f i s => lX0_shareByParts_80 n am c2 (nI F) c4 v (fun x7_80 m80 => some m80) f (nI i) s) v.toNatClampNeg (fun s => some s) (fun i s => sx [c4, 240] μ s ∧ p_ag F (rd s c4, rL s 240) (p_it F g r i))
    (fun f s hI => by
      rw [lX0_shareByParts_80]
      rw [if_pos cn_le])
    (fun f i s hi hI => by
      obtain ⟨h2, h3⟩ := hI
      have hb := p_bs_lt (r := rL s 240) F (by omega)
      have h5 := p_ag_gv (by omega) h3
      refine ⟨wL (wr s c4 (p_bs (rL s 240) F) (rd s c4 (p_bs (rL s 240) F) + 1)) 240 (p_bs (rL s 240) F) (-1), ⟨sx_tr h2 (sx_tr (sx_wr (by simp)) (sx_wL (by simp))), fun j hj => ?_⟩, ?_⟩
      · have h6 := h5.2 j hj
        dsimp only at h6 ⊢
        simp only [p_it]
        rw [← h6.1, ← h6.2]
        simp only [rd_wL, rd_wr, rL_wL, rL_wr, true_and, upd, vp_updL]
      · rw [lX0_shareByParts_80, if_neg (cn_gt hi), X_gv h4 h1F h8 hn, bv_some, li1, nI_add])
    n 0 μ (by omega) (by omega) ⟨sx_rf, hg⟩
  exact ⟨μ', e, h2, fun i hi => (h3 i hi).1⟩
theorem X_sh {n F c2 c4 : Nat} {am : Int32} {μ : hb_m} (h2 : hx_n c2 = 8) (h4 : hx_n c4 = 8) (hne : c2 ≠ c4) (h1F : 1 ≤ F) (h8 : F ≤ 8) (hal : gp (rd μ c2) F) (hn : 2147483648 ≤ n) : ∃ μ', fX0_shareByParts n am c2 (nI F) c4 μ = some μ' ∧ sx [c4, 240] μ μ' ∧ ∀ i, i < F → rd μ' c4 i = p_sh am (rd μ c2) F i := by
  unfold fX0_shareByParts
  obtain ⟨a1, a2, a3⟩ := gp_all hal
  rw [X_sumOf (by omega) (by omega) hn, bi_some, if_pos a2]
  obtain ⟨μ1, e1, s1, g1⟩ := X_shB (n := n) (k := fun x7_20 x6_20 m20 => lX0_shareByParts_80 n am c2 (nI F) c4 x6_20 (fun x7_80 m80 => some m80) n 0 m20) (am := am) h2 h4 hne h8 a1 a3 hn
  rw [e1]
  obtain ⟨μ2, e2, s2, g2⟩ := X_shC (c2 := c2) (am := am) (v := p_lf am (rd μ c2) (p_all (rd μ c2) F) F) (g := p_g0 am (rd μ c2) (p_all (rd μ c2) F)) (r := p_r0 am (rd μ c2) (p_all (rd μ c2) F)) h4 h1F h8 g1 hn
  exact ⟨μ2, e2, sx_tr s1 s2, g2⟩
theorem X_sh0 {n c2 c4 : Nat} {am : Int32} {μ : hb_m} (h2 : hx_n c2 = 8) (hn : 2147483648 ≤ n) : fX0_shareByParts n am c2 (nI 0) c4 μ = some μ := by
  unfold fX0_shareByParts
  rw [X_sumOf (by omega) (by omega) hn, bi_some, if_neg (show ¬ (1 : Int32) ≤ sI (rd μ c2) 0 from (by decide : ¬ (1 : Int32) ≤ 0))]

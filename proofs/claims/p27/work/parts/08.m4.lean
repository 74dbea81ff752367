/-! THE REFERENCE, PURE: shares in its rows -/
theorem cn_le {x : Int32} : x ≤ nI x.toNatClampNeg := by
  by_cases h : x < 0
  · rw [Int32.le_iff_toInt_le]
    have h1 := Int32.lt_iff_toInt_lt.mp h
    have h2 : (0 : Int32).toInt = 0 := by decide
    have h3 : x.toNatClampNeg < 2147483648 := by
      show x.toInt.toNat < 2147483648
      have := Int32.toInt_lt x
      omega
    rw [nI_toInt (by omega)]
    omega
  · obtain ⟨j, hj, rfl⟩ := nI_of h
    rw [cl_ok (by omega)]
    exact Int32.le_refl _
theorem cn_gt {x : Int32} {i : Nat} (h : i < x.toNatClampNeg) : ¬ x ≤ nI i := by
  have h1 : x.toNatClampNeg = x.toInt.toNat := rfl
  have h2 := Int32.toInt_lt x
  rw [Int32.le_iff_toInt_le, nI_toInt (by omega)]
  omega
theorem cn_lt (x : Int32) : x.toNatClampNeg < 2147483648 := by
  show x.toInt.toNat < 2147483648
  have := Int32.toInt_lt x
  omega
theorem M_shB {n F : Nat} {am : Int32} {al : Int64} {μ : hb_m} {k : Int32 → Int32 → hb_m → Option hb_m} (hF : rd μ 1 0 = nI F) (h8 : F ≤ 8) (hal : ¬ al = 0) (hn : 2147483648 ≤ n) : ∃ μ', lX6_shares_39 n am al k n 0 am μ = k (nI F) (p_lf am (rd μ 5) al F) μ' ∧ sx [6, 7] μ μ' ∧ ∀ i, i < F → rd μ' 6 i = p_g0 am (rd μ 5) al i ∧ rL μ' 7 i = p_r0 am (rd μ 5) al i := by
  obtain ⟨⟨a, μ'⟩, ⟨h1, h2, h3⟩, e⟩ := lo (S := Int32 × hb_m) (fun f i s => lX6_shares_39 n am al k f (nI i) s.1 s.2) F (fun s => k (nI F) s.1 s.2) (fun i s => s.1 = p_lf am (rd μ 5) al i ∧ sx [6, 7] μ s.2 ∧ ∀ j, j < i → rd s.2 6 j = p_g0 am (rd μ 5) al j ∧ rL s.2 7 j = p_r0 am (rd μ 5) al j)
    (fun f s hI => by
      obtain ⟨a, μ'⟩ := s
      obtain ⟨h1, h2, h3⟩ := hI
      have hF' : rd μ' 1 0 = nI F := by rw [(h2 1 (by decide)).1]; exact hF
      rw [lX6_shares_39]
      simp (disch := omega) only [li0, ib_ok, cl_ok, hF', le_ok, Nat.le_refl, if_true])
    (fun f i s hi hI => by
      obtain ⟨a, μ'⟩ := s
      obtain ⟨h1, h2, h3⟩ := hI
      dsimp only at h1 h2 h3 ⊢
      subst h1
      have hF' : rd μ' 1 0 = nI F := by rw [(h2 1 (by decide)).1]; exact hF
      have h5 : rd μ' 5 i = rd μ 5 i := (h2 5 (by decide)).1 i
      refine ⟨(p_lf am (rd μ 5) al (i + 1), wL (wr μ' 6 i (p_g0 am (rd μ 5) al i)) 7 i (p_r0 am (rd μ 5) al i)), ⟨rfl, sx_tr h2 (sx_tr (sx_wr (by decide)) (sx_wL (by decide))), fun j hj => ?_⟩, ?_⟩
      · dsimp only
        by_cases hji : j = i
        · subst hji
          simp only [rd_wL, rd_wr, rL_wL, and_self, if_true]
        · have := h3 j (by omega)
          simp only [rd_wL, rd_wr, rL_wL, rL_wr, hji, and_false, if_false]
          exact this
      · rw [lX6_shares_39]
        rw [show (0 : Int32).toNatClampNeg = 0 from rfl, hF', show ib 0 415 = true from by decide, if_pos rfl, if_neg (by rw [le_ok (by omega) (by omega)]; omega), ib_ok (by omega) (by omega), if_pos rfl, if_neg hal, if_pos rfl, if_neg hal, if_pos rfl, if_pos rfl, cl_ok (by omega), h5, li1, nI_add, rd_wL, rd_wr, if_pos ⟨rfl, rfl⟩]
        rfl)
    n 0 (am, μ) (by omega) (by omega) ⟨rfl, sx_rf, fun j hj => by omega⟩
  dsimp only at h1 h2 h3 e
  refine ⟨μ', ?_, h2, h3⟩
  refine Eq.trans e ?_
  rw [h1]
theorem M_shC {n F : Nat} {am v : Int32} {μ : hb_m} {k : Int32 → hb_m → Option hb_m} {g : Nat → Int32} {r : Nat → Int64} (hF : rd μ 1 0 = nI F) (h1F : 1 ≤ F) (h8 : F ≤ 8) (hg : p_ag F (rd μ 6, rL μ 7) (g, r)) (hn : 2147483648 ≤ n) : ∃ μ', lX6_shares_107 n am v k n 0 μ = k (nI v.toNatClampNeg) μ' ∧ sx [6, 7] μ μ' ∧ ∀ i, i < F → rd μ' 6 i = (p_it F g r v.toNatClampNeg).1 i := by
  have hv := cn_lt v
  obtain ⟨μ', ⟨h2, h3⟩, e⟩ := lo (S := hb_m) (fun f i s => lX6_shares_107 n am v k f (nI i) s) v.toNatClampNeg (fun s => k (nI v.toNatClampNeg) s) (fun i s => sx [6, 7] μ s ∧ p_ag F (rd s 6, rL s 7) (p_it F g r i))
    (fun f s hI => by
      rw [lX6_shares_107]
      rw [if_pos cn_le])
    (fun f i s hi hI => by
      obtain ⟨h2, h3⟩ := hI
      have hF' : rd s 1 0 = nI F := by rw [(h2 1 (by decide)).1]; exact hF
      have hb := p_bs_lt (r := rL s 7) F (by omega)
      have h4 := p_ag_gv (by omega) h3
      refine ⟨wL (wr s 6 (p_bs (rL s 7) F) (rd s 6 (p_bs (rL s 7) F) + 1)) 7 (p_bs (rL s 7) F) (-1), ⟨sx_tr h2 (sx_tr (sx_wr (by decide)) (sx_wL (by decide))), fun j hj => ?_⟩, ?_⟩
      · have h5 := h4.2 j hj
        dsimp only at h5 ⊢
        simp only [p_it]
        rw [← h5.1, ← h5.2]
        simp only [rd_wL, rd_wr, rL_wL, rL_wr, true_and, upd, vp_updL]
      · rw [lX6_shares_107, if_neg (cn_gt hi), M_gR hF' h1F h8 hn, bi_some, ib_ok (by omega) (by omega), if_pos rfl, if_pos rfl, if_pos rfl, cl_ok (by omega), li1, nI_add])
    n 0 μ (by omega) (by omega) ⟨sx_rf, hg⟩
  exact ⟨μ', e, h2, fun i hi => (h3 i hi).1⟩
theorem M_sh {n F : Nat} {am : Int32} {μ : hb_m} (hF : rd μ 1 0 = nI F) (h1F : 1 ≤ F) (h8 : F ≤ 8) (hal : ¬ p_all (rd μ 5) F = 0) (hn : 2147483648 ≤ n) : ∃ μ', fX6_shares n am μ = some μ' ∧ sx [6, 7] μ μ' ∧ ∀ i, i < F → rd μ' 6 i = p_sh am (rd μ 5) F i := by
  unfold fX6_shares
  rw [M_shA hF h8 hn]
  obtain ⟨μ1, e1, s1, g1⟩ := M_shB (k := fun x5_39 x4_39 m39 => lX6_shares_107 n am x4_39 (fun x5_107 m107 => some m107) n 0 m39) (am := am) hF h8 hal hn
  rw [e1]
  have hF1 : rd μ1 1 0 = nI F := by rw [(s1 1 (by decide)).1]; exact hF
  obtain ⟨μ2, e2, s2, g2⟩ := M_shC (k := fun x5_107 m107 => some m107) (am := am) (v := p_lf am (rd μ 5) (p_all (rd μ 5) F) F) (g := p_g0 am (rd μ 5) (p_all (rd μ 5) F)) (r := p_r0 am (rd μ 5) (p_all (rd μ 5) F)) hF1 h1F h8 g1 hn
  exact ⟨μ2, e2, sx_tr s1 s2, g2⟩

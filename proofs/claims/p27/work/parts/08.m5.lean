/-! THE REFERENCE, PURE: costs -/
def rg (x : Int32) (lo hi : Nat) : Prop := x = nI x.toNatClampNeg ∧ lo ≤ x.toNatClampNeg ∧ x.toNatClampNeg ≤ hi
theorem rg_mk {v lo hi : Nat} (h : lo ≤ v) (h1 : v ≤ hi) (h2 : hi < 2147483648) : rg (nI v) lo hi := by
  unfold rg
  rw [cl_ok (by omega)]
  exact ⟨rfl, h, h1⟩
theorem p_all_lN {a : Nat → Int32} {g : Nat → Nat} : ∀ F, (∀ i, i < F → a i = nI (g i) ∧ g i < 2147483648) → p_all a F = lN (sN g F)
  | 0, _ => rfl
  | F + 1, h => by
    simp only [p_all, sN]
    rw [p_all_lN F (fun i hi => h i (by omega)), (h F (by omega)).1, nI_l (h F (by omega)).2, lN_add]
theorem p_all_ne {a : Nat → Int32} {g : Nat → Nat} {F : Nat} (h : ∀ i, i < F → a i = nI (g i) ∧ g i < 2147483648) (h1 : 0 < sN g F) (h2 : sN g F < 2147483648) : ¬ p_all a F = 0 := by
  rw [p_all_lN F h, show (0 : Int64) = lN 0 from rfl, lN_eq (by omega) (by omega)]
  omega
theorem ar_ne {ρ : Nat → Int32} {F : Nat} (hF : 1 ≤ F) (h8 : F ≤ 8) (h : ∀ f, f < F → rg (ρ (7 + 3 * f)) 1 200) : ¬ p_all (fun f => ρ (7 + 3 * f)) F = 0 := by
  have h1 : sN (fun f => (ρ (7 + 3 * f)).toNatClampNeg) F ≤ F * 200 := sN_le F (fun i hi => (h i hi).2.2)
  refine p_all_ne (g := fun f => (ρ (7 + 3 * f)).toNatClampNeg) (fun i hi => ⟨(h i hi).1, by have := (h i hi).2.2; omega⟩) ?_ (by omega)
  exact sN_pos F 0 (by omega) (by have := (h 0 (by omega)).2.1; omega)
def p_bse (ρ : Nat → Int32) (F : Nat) (cost base : Int32) : Nat → Int32 := p_sh (cost * base / 100) (fun f => ρ (7 + 3 * f)) F
def p_usd (ρ : Nat → Int32) (F : Nat) (U : Nat → Int32) (cost base : Int32) : Nat → Int32 := p_sh (cost - cost * base / 100) (if sI U F ≤ 0 then (fun f => ρ (7 + 3 * f)) else U) F
theorem M_pA {n F : Nat} {μ : hb_m} (hF : rd μ 1 0 = nI F) (h8 : F ≤ 8) (hn : 2147483648 ≤ n) : ∃ μ', fX6_partsAreAreas n μ = some μ' ∧ sx [5] μ μ' ∧ ∀ i, i < F → rd μ' 5 i = rd μ 1 (7 + 3 * i) := by
  unfold fX6_partsAreAreas
  obtain ⟨μ', ⟨h2, h3⟩, e⟩ := lo (S := hb_m) (fun f i s => lX6_partsAreAreas_2 n (fun x1_2 m2 => some m2) f (nI i) s) F (fun s => some s) (fun i s => sx [5] μ s ∧ ∀ j, j < i → rd s 5 j = rd μ 1 (7 + 3 * j))
    (fun f s hI => by
      have hF' : rd s 1 0 = nI F := by rw [(hI.1 1 (by decide)).1]; exact hF
      rw [lX6_partsAreAreas_2]
      simp (disch := omega) only [li0, ib_ok, cl_ok, hF', le_ok, Nat.le_refl, if_true])
    (fun f i s hi hI => by
      obtain ⟨h2, h3⟩ := hI
      have hF' : rd s 1 0 = nI F := by rw [(h2 1 (by decide)).1]; exact hF
      have h5 : rd s 1 (7 + 3 * i) = rd μ 1 (7 + 3 * i) := (h2 1 (by decide)).1 _
      refine ⟨wr s 5 i (rd μ 1 (7 + 3 * i)), ⟨sx_tr h2 (sx_wr (by decide)), fun j hj => ?_⟩, ?_⟩
      · by_cases hji : j = i
        · subst hji
          simp only [rd_wr, and_self, if_true]
        · have := h3 j (by omega)
          simp only [rd_wr, hji, and_false, if_false]
          exact this
      · rw [lX6_partsAreAreas_2]
        simp (disch := omega) only [li0, li1, ib_ok, cl_ok, hF', le_ok, if_true, M_ofFlat, bi_some, Nat.add_zero, nI_add, h5]
        rw [if_neg (by omega)])
    n 0 μ (by omega) (by omega) ⟨sx_rf, fun j hj => by omega⟩
  exact ⟨μ', e, h2, h3⟩
theorem M_lC32 {n F : Nat} {p1 p2 v3 : Int32} {μ : hb_m} {k : Int32 → Int32 → hb_m → Option hb_m} (hF : rd μ 1 0 = nI F) (h8 : F ≤ 8) (hn : 2147483648 ≤ n) : ∃ μ', lX6_laysCosts_32 n p1 p2 v3 k n 0 0 μ = k (nI F) (sI (rd μ 8) F) μ' ∧ sx [9] μ μ' ∧ ∀ i, i < F → rd μ' 9 i = rd μ 6 i := by
  obtain ⟨⟨a, μ'⟩, ⟨h1, h2, h3⟩, e⟩ := lo (S := Int32 × hb_m) (fun f i s => lX6_laysCosts_32 n p1 p2 v3 k f (nI i) s.1 s.2) F (fun s => k (nI F) s.1 s.2) (fun i s => s.1 = sI (rd μ 8) i ∧ sx [9] μ s.2 ∧ ∀ j, j < i → rd s.2 9 j = rd μ 6 j)
    (fun f s hI => by
      obtain ⟨a, μ'⟩ := s
      obtain ⟨h1, h2, h3⟩ := hI
      have hF' : rd μ' 1 0 = nI F := by rw [(h2 1 (by decide)).1]; exact hF
      rw [lX6_laysCosts_32]
      simp (disch := omega) only [li0, ib_ok, cl_ok, hF', le_ok, Nat.le_refl, if_true])
    (fun f i s hi hI => by
      obtain ⟨a, μ'⟩ := s
      obtain ⟨h1, h2, h3⟩ := hI
      dsimp only at h1 h2 h3 ⊢
      subst h1
      have hF' : rd μ' 1 0 = nI F := by rw [(h2 1 (by decide)).1]; exact hF
      have h6 : rd μ' 6 i = rd μ 6 i := (h2 6 (by decide)).1 i
      have h88 : rd μ' 8 i = rd μ 8 i := (h2 8 (by decide)).1 i
      refine ⟨(sI (rd μ 8) (i + 1), wr μ' 9 i (rd μ 6 i)), ⟨rfl, sx_tr h2 (sx_wr (by decide)), fun j hj => ?_⟩, ?_⟩
      · dsimp only
        by_cases hji : j = i
        · subst hji
          simp only [rd_wr, and_self, if_true]
        · have := h3 j (by omega)
          simp only [rd_wr, hji, and_false, if_false]
          exact this
      · rw [lX6_laysCosts_32]
        rw [show (0 : Int32).toNatClampNeg = 0 from rfl, hF', show ib 0 415 = true from by decide, if_pos rfl, if_neg (by rw [le_ok (by omega) (by omega)]; omega), ib_ok (by omega) (by omega), if_pos rfl, if_pos rfl, if_pos rfl, cl_ok (by omega), h6, li1, nI_add, rd_wr, if_neg (by omega), h88]
        rfl)
    n 0 (0, μ) (by omega) (by omega) ⟨rfl, sx_rf, fun j hj => by omega⟩
  dsimp only at h1 h2 h3 e
  refine ⟨μ', ?_, h2, h3⟩
  refine Eq.trans e ?_
  rw [h1]
theorem M_lC78 {n F : Nat} {p1 p2 v4 v3 : Int32} {μ : hb_m} {k : Int32 → hb_m → Option hb_m} (hF : rd μ 1 0 = nI F) (h1F : 1 ≤ F) (h8 : F ≤ 8) (hn : 2147483648 ≤ n) : ∃ x μ', lX6_laysCosts_78 n p1 p2 v4 v3 k n 0 μ = k x μ' ∧ sx [5] μ μ' ∧ ∀ i, i < F → rd μ' 5 i = if v4 ≤ 0 then rd μ 5 i else rd μ 8 i := by
  by_cases hv : v4 ≤ 0
  · refine ⟨0, μ, ?_, sx_rf, fun i hi => by rw [if_pos hv]⟩
    obtain ⟨m, rfl⟩ : ∃ m, n = m + 1 := ⟨n - 1, by omega⟩
    rw [lX6_laysCosts_78]
    rw [show (0 : Int32).toNatClampNeg = 0 from rfl, hF, show ib 0 415 = true from by decide, if_pos rfl, if_neg (by rw [li0, le_ok (by omega) (by omega)]; omega), if_pos hv]
  · obtain ⟨μ', ⟨h2, h3⟩, e⟩ := lo (S := hb_m) (fun f i s => lX6_laysCosts_78 n p1 p2 v4 v3 k f (nI i) s) F (fun s => k (nI F) s) (fun i s => sx [5] μ s ∧ ∀ j, j < i → rd s 5 j = rd μ 8 j)
      (fun f s hI => by
        have hF' : rd s 1 0 = nI F := by rw [(hI.1 1 (by decide)).1]; exact hF
        rw [lX6_laysCosts_78]
        rw [show (0 : Int32).toNatClampNeg = 0 from rfl, hF', show ib 0 415 = true from by decide, if_pos rfl, if_pos (by rw [le_ok (by omega) (by omega)]; omega)])
      (fun f i s hi hI => by
        obtain ⟨h2, h3⟩ := hI
        have hF' : rd s 1 0 = nI F := by rw [(h2 1 (by decide)).1]; exact hF
        have h88 : rd s 8 i = rd μ 8 i := (h2 8 (by decide)).1 i
        refine ⟨wr s 5 i (rd μ 8 i), ⟨sx_tr h2 (sx_wr (by decide)), fun j hj => ?_⟩, ?_⟩
        · by_cases hji : j = i
          · subst hji
            simp only [rd_wr, and_self, if_true]
          · have := h3 j (by omega)
            simp only [rd_wr, hji, and_false, if_false]
            exact this
        · rw [lX6_laysCosts_78]
          rw [show (0 : Int32).toNatClampNeg = 0 from rfl, hF', show ib 0 415 = true from by decide, if_pos rfl, if_neg (by rw [le_ok (by omega) (by omega)]; omega), if_neg hv, ib_ok (by omega) (by omega), if_pos rfl, if_pos rfl, cl_ok (by omega), h88, li1, nI_add])
      n 0 μ (by omega) (by omega) ⟨sx_rf, fun j hj => by omega⟩
    exact ⟨nI F, μ', e, h2, fun i hi => by rw [if_neg hv]; exact h3 i hi⟩
theorem M_lC124 {n F : Nat} {p1 p2 : Int32} {μ : hb_m} (hF : rd μ 1 0 = nI F) (h8 : F ≤ 8) (hn : 2147483648 ≤ n) : ∃ μ', lX6_laysCosts_124 n p1 p2 (fun x5_124 m124 => some m124) n 0 μ = some μ' ∧ sx [10] μ μ' ∧ ∀ i, i < F → rd μ' 10 i = rd μ 6 i := by
  obtain ⟨μ', ⟨h2, h3⟩, e⟩ := lo (S := hb_m) (fun f i s => lX6_laysCosts_124 n p1 p2 (fun x5_124 m124 => some m124) f (nI i) s) F (fun s => some s) (fun i s => sx [10] μ s ∧ ∀ j, j < i → rd s 10 j = rd μ 6 j)
    (fun f s hI => by
      have hF' : rd s 1 0 = nI F := by rw [(hI.1 1 (by decide)).1]; exact hF
      rw [lX6_laysCosts_124]
      rw [show (0 : Int32).toNatClampNeg = 0 from rfl, hF', show ib 0 415 = true from by decide, if_pos rfl, if_pos (by rw [le_ok (by omega) (by omega)]; omega)])
    (fun f i s hi hI => by
      obtain ⟨h2, h3⟩ := hI
      have hF' : rd s 1 0 = nI F := by rw [(h2 1 (by decide)).1]; exact hF
      have h66 : rd s 6 i = rd μ 6 i := (h2 6 (by decide)).1 i
      refine ⟨wr s 10 i (rd μ 6 i), ⟨sx_tr h2 (sx_wr (by decide)), fun j hj => ?_⟩, ?_⟩
      · by_cases hji : j = i
        · subst hji
          simp only [rd_wr, and_self, if_true]
        · have := h3 j (by omega)
          simp only [rd_wr, hji, and_false, if_false]
          exact this
      · rw [lX6_laysCosts_124]
        rw [show (0 : Int32).toNatClampNeg = 0 from rfl, hF', show ib 0 415 = true from by decide, if_pos rfl, if_neg (by rw [le_ok (by omega) (by omega)]; omega), ib_ok (by omega) (by omega), if_pos rfl, if_pos rfl, cl_ok (by omega), h66, li1, nI_add])
    n 0 μ (by omega) (by omega) ⟨sx_rf, fun j hj => by omega⟩
  exact ⟨μ', e, h2, h3⟩
theorem M_lC {n F : Nat} {c b : Int32} {μ : hb_m} (hF : rd μ 1 0 = nI F) (h8 : F ≤ 8) (har : ∀ f, f < F → rg (rd μ 1 (7 + 3 * f)) 1 200) (hal : ¬ sI (rd μ 8) F ≤ 0 → ¬ p_all (rd μ 8) F = 0) (hn : 2147483648 ≤ n) : ∃ μ', fX6_laysCosts n c b μ = some μ' ∧ sx [5, 6, 7, 9, 10] μ μ' ∧ ∀ i, i < F → rd μ' 9 i = p_bse (rd μ 1) F c b i ∧ rd μ' 10 i = p_usd (rd μ 1) F (rd μ 8) c b i := by
  unfold fX6_laysCosts
  rw [show (0 : Int32).toNatClampNeg = 0 from rfl, hF, show ib 0 415 = true from by decide, if_pos rfl]
  by_cases h0 : F = 0
  · subst h0
    exact ⟨μ, by rw [if_pos (show nI 0 = 0 from rfl)], sx_rf, fun i hi => by omega⟩
  · rw [if_neg (by rw [li0, eq_ok (by omega) (by omega)]; exact h0)]
    have h1F : 1 ≤ F := by omega
    obtain ⟨μ1, e1, s1, g1⟩ := M_pA hF h8 hn
    have hF1 : rd μ1 1 0 = nI F := by rw [(s1 1 (by decide)).1]; exact hF
    have ha1 : p_all (rd μ1 5) F = p_all (fun f => rd μ 1 (7 + 3 * f)) F := p_all_co F g1
    obtain ⟨μ2, e2, s2, g2⟩ := M_sh (am := c * b / 100) hF1 h1F h8 (by rw [ha1]; exact ar_ne h1F h8 har) hn
    have hF2 : rd μ2 1 0 = nI F := by rw [(s2 1 (by decide)).1]; exact hF1
    rw [e1, bv_some, e2, bv_some]
    obtain ⟨μ3, e3, s3, g3⟩ := M_lC32 (p1 := c) (p2 := b) (v3 := c * b / 100) (k := fun x5_32 x4_32 m32 => lX6_laysCosts_78 n c b x4_32 ((c * b) / 100) (fun x5_78 m78 => bv (fX6_shares n (c - ((c * b) / 100)) m78) (fun m118 => lX6_laysCosts_124 n c b (fun x5_124 m124 => some m124) n 0 m118)) n 0 m32) hF2 h8 hn
    have hF3 : rd μ3 1 0 = nI F := by rw [(s3 1 (by decide)).1]; exact hF2
    refine Exists.elim (M_lC78 (p1 := c) (p2 := b) (v4 := sI (rd μ2 8) F) (v3 := c * b / 100) (k := fun x5_78 m78 => bv (fX6_shares n (c - ((c * b) / 100)) m78) (fun m118 => lX6_laysCosts_124 n c b (fun x5_124 m124 => some m124) n 0 m118)) hF3 h1F h8 hn) (fun x hx => ?_)
    obtain ⟨μ4, e4, s4, g4⟩ := hx
    have hF4 : rd μ4 1 0 = nI F := by rw [(s4 1 (by decide)).1]; exact hF3
    have hU : ∀ i, rd μ2 8 i = rd μ 8 i := fun i => ((s2 8 (by decide)).1 i).trans ((s1 8 (by decide)).1 i)
    have hU3 : ∀ i, rd μ3 8 i = rd μ 8 i := fun i => ((s3 8 (by decide)).1 i).trans (hU i)
    have hsI : sI (rd μ2 8) F = sI (rd μ 8) F := sI_co F (fun i _ => hU i)
    have h35 : ∀ i, i < F → rd μ3 5 i = rd μ 1 (7 + 3 * i) := fun i hi => ((s3 5 (by decide)).1 i).trans (((s2 5 (by decide)).1 i).trans (g1 i hi))
    have g4' : ∀ i, i < F → rd μ4 5 i = (if sI (rd μ 8) F ≤ 0 then (fun f => rd μ 1 (7 + 3 * f)) else rd μ 8) i := by
      intro i hi
      rw [g4 i hi, hsI]
      by_cases hs : sI (rd μ 8) F ≤ 0
      · rw [if_pos hs, if_pos hs, h35 i hi]
      · rw [if_neg hs, if_neg hs, hU3 i]
    have ha4 := p_all_co F g4'
    obtain ⟨μ5, e5, s5, g5⟩ := M_sh (am := c - c * b / 100) hF4 h1F h8 (by
      rw [ha4]
      by_cases hs : sI (rd μ 8) F ≤ 0
      · rw [if_pos hs]; exact ar_ne h1F h8 har
      · rw [if_neg hs]; exact hal hs) hn
    have hF5 : rd μ5 1 0 = nI F := by rw [(s5 1 (by decide)).1]; exact hF4
    obtain ⟨μ6, e6, s6, g6⟩ := M_lC124 (p1 := c) (p2 := b) hF5 h8 hn
    refine ⟨μ6, ?_, ?_, fun i hi => ⟨?_, ?_⟩⟩
    · rw [e3, e4, e5, bv_some, e6]
    · exact sx_tr (sx_mo s1 (by decide)) (sx_tr (sx_mo s2 (by decide)) (sx_tr (sx_mo s3 (by decide)) (sx_tr (sx_mo s4 (by decide)) (sx_tr (sx_mo s5 (by decide)) (sx_mo s6 (by decide))))))
    · rw [(s6 9 (by decide)).1, (s5 9 (by decide)).1, (s4 9 (by decide)).1, g3 i hi, g2 i hi]
      exact p_sh_co h1F g1 hi
    · rw [g6 i hi, g5 i hi]
      exact p_sh_co h1F g4' hi

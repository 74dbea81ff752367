/-! THE CLASS, PURE: costs and units -/
theorem hx_n236 : hx_n 236 = 8 := rfl
theorem hx_n237 : hx_n 237 = 8 := rfl
theorem hx_n238 : hx_n 238 = 8 := rfl
theorem hx_n239 : hx_n 239 = 16 := rfl
theorem hx_nB1 {B : Nat} (h : hx_H B) : hx_n (B + 1) = 8 := hx_no (kxH1 h)
theorem hx_lt {B : Nat} (h : hx_H B) : B + 38 ≤ 228 := by
  obtain ⟨j, hj, rfl⟩ := h
  omega
theorem X_sC {n F B : Nat} {c b : Int32} {ρ : Nat → Int32} {μ : hb_m} (hB : hx_H B) (hF : rd μ B 0 = nI F) (h8 : F ≤ 8) (har : ∀ f, f < F → rg (ρ (7 + 3 * f)) 1 200) (hra : ∀ f, f < F → rd μ (B + 1) f = ρ (7 + 3 * f)) (hU : gn (rd μ 236) F) (hn : 2147483648 ≤ n) : ∃ μ', fX0_shareCost n B c b μ = some μ' ∧ sx [237, 238, 240] μ μ' ∧ ∀ i, i < F → rd μ' 237 i = p_bse ρ F c b i ∧ rd μ' 238 i = p_usd ρ F (rd μ 236) c b i := by
  have hl := hx_lt hB
  have n1 := hx_nB1 hB
  unfold fX0_shareCost
  rw [hF, X_sumOf (by rw [hx_n236]; omega) (by rw [hx_n236]; omega) hn, bi_some, hF]
  by_cases h0 : F = 0
  · subst h0
    rw [if_pos (show sI (rd μ 236) 0 ≤ 0 from Int32.le_refl _), X_sh0 n1 hn, bv_some, hF, X_sh0 n1 hn, bv_some]
    exact ⟨μ, rfl, sx_rf, fun i hi => by omega⟩
  · have h1F : 1 ≤ F := by omega
    have hga : gp (rd μ (B + 1)) F := gp_co (gp_ar h1F h8 har) hra
    obtain ⟨μ1, e1, s1, g1⟩ := X_sh (n := n) (c2 := B + 1) (c4 := 237) (am := c * b / 100) n1 hx_n237 (by omega) h1F h8 hga hn
    have hF1 : rd μ1 B 0 = nI F := by rw [(s1 B (by simp; omega)).1]; exact hF
    have hB1 : ∀ i, rd μ1 (B + 1) i = rd μ (B + 1) i := (s1 (B + 1) (by simp; omega)).1
    have hU1 : ∀ i, rd μ1 236 i = rd μ 236 i := (s1 236 (by simp)).1
    by_cases hs : sI (rd μ 236) F ≤ 0
    · rw [if_pos hs, e1, bv_some, hF1]
      obtain ⟨μ2, e2, s2, g2⟩ := X_sh (n := n) (c2 := B + 1) (c4 := 238) (am := c - c * b / 100) n1 hx_n238 (by omega) h1F h8 (gp_co hga (fun i _ => hB1 i)) hn
      rw [e2, bv_some]
      refine ⟨μ2, rfl, sx_tr (sx_mo s1 (by simp)) (sx_mo s2 (by simp)), fun i hi => ⟨?_, ?_⟩⟩
      · rw [(s2 237 (by simp)).1, g1 i hi]
        exact p_sh_co (by omega) hra hi
      · rw [g2 i hi]
        unfold p_usd
        rw [if_pos hs]
        exact p_sh_co (by omega) (fun j hj => (hB1 j).trans (hra j hj)) hi
    · rw [if_neg hs, e1, bv_some, hF1]
      obtain ⟨μ2, e2, s2, g2⟩ := X_sh (n := n) (c2 := 236) (c4 := 238) (am := c - c * b / 100) hx_n236 hx_n238 (by omega) h1F h8 (gp_co (gn_pos hU hs) (fun i _ => hU1 i)) hn
      rw [e2, bv_some]
      refine ⟨μ2, rfl, sx_tr (sx_mo s1 (by simp)) (sx_mo s2 (by simp)), fun i hi => ⟨?_, ?_⟩⟩
      · rw [(s2 237 (by simp)).1, g1 i hi]
        exact p_sh_co (by omega) hra hi
      · rw [g2 i hi]
        unfold p_usd
        rw [if_neg hs]
        exact p_sh_co (by omega) (fun j hj => hU1 j) hi
theorem X_dU {n F D B C : Nat} {ρ U : Nat → Int32} {μ : hb_m} (hB : hx_H B) (hC : C + 6 ≤ 228) (hF : rd μ B 0 = nI F) (h8 : F ≤ 8) (har : ∀ f, f < F → rg (ρ (7 + 3 * f)) 1 200) (hra : ∀ f, f < F → rd μ (B + 1) f = ρ (7 + 3 * f)) (hD : rd μ C 2 = nI D) (hD20 : D ≤ 20) (hat : ∀ d, d < D → ∃ a, a < 8 ∧ ρ (31 + 5 * d) = nI a) (hra2 : ∀ d, d < D → rd μ (B + 2) d = ρ (31 + 5 * d)) (hu : ∀ d, d < D → rd μ (C + 3) d = U d) (hU : gn (p_fU U ρ D) F) (hn : 2147483648 ≤ n) : ∃ μ', fX0_drawUp n B C μ = some μ' ∧ sx [236, 237, 238, 240] μ μ' ∧ (∀ i, i < F → rd μ' 237 i = p_bse ρ F (rd μ C 0) (rd μ C 1) i ∧ rd μ' 238 i = p_usd ρ F (p_fU U ρ D) (rd μ C 0) (rd μ C 1) i) ∧ ∀ f, f < 8 → rd μ' 236 f = p_fU U ρ D f := by
  have hl := hx_lt hB
  unfold fX0_drawUp
  obtain ⟨μ0, e0, g0, l0⟩ := X_fill (n := n) (a := 236) (L := 8) (v := 0) (μ := μ) hx_n236 (by omega) hn
  have s0 : sx [236] μ μ0 := fun k hk => ⟨fun i => by
    have hk' : k ≠ 236 := by simpa using hk
    rw [g0, if_neg (fun q => hk' q.1)], l0 k⟩
  rw [e0, bv_some]
  obtain ⟨μ1, ⟨h2, h3⟩, e⟩ := lo (S := hb_m) (fun f i s => lX0_drawUp_10 n B C (fun x3_10 m10 => bv (fX0_shareCost n B (rd m10 C 0) (rd m10 C 1) m10) (fun m54 => some m54)) f (nI i) s) D (fun s => bv (fX0_shareCost n B (rd s C 0) (rd s C 1) s) (fun m54 => some m54)) (fun i s => sx [236] μ s ∧ ∀ f, f < 8 → rd s 236 f = p_fU U ρ i f)
    (fun f s hI => by
      have hr : rd s C 2 = rd μ C 2 := (hI.1 C (by simp; omega)).1 2
      rw [lX0_drawUp_10]
      rw [hr, hD, if_pos (by rw [le_ok (by omega) (by omega)]; omega)])
    (fun f i s hi hI => by
      obtain ⟨h2, h3⟩ := hI
      have hr : rd s C 2 = rd μ C 2 := (h2 C (by simp; omega)).1 2
      obtain ⟨a, ha, hat'⟩ := hat i hi
      have ha2 : rd s (B + 2) i = nI a := by rw [(h2 (B + 2) (by simp; omega)).1, hra2 i hi]; exact hat'
      have hu2 : rd s (C + 3) i = U i := by rw [(h2 (C + 3) (by simp; omega)).1]; exact hu i hi
      refine ⟨wr s 236 a (rd s 236 a + U i), ⟨sx_tr h2 (sx_wr (by simp)), fun f hf => ?_⟩, ?_⟩
      · rw [p_fU_s _ _ hat' ha hf, rd_wr]
        by_cases hfa : f = a
        · subst hfa
          rw [if_pos ⟨rfl, rfl⟩, if_pos rfl, h3 f hf]
        · rw [if_neg (fun q => hfa q.2), if_neg hfa, h3 f hf]
      · rw [lX0_drawUp_10]
        rw [hr, hD, if_neg (by rw [le_ok (by omega) (by omega)]; omega), ib_ok (by omega) (by omega), if_pos rfl, cl_ok (by omega), ha2, ib_ok ha (by omega), if_pos rfl, if_pos rfl, if_pos rfl, cl_ok (by omega), hu2, li1, nI_add])
    n 0 μ0 (by omega) (by omega) ⟨s0, fun f hf => by rw [g0, if_pos ⟨rfl, hf⟩]; rfl⟩
  have hg : ∀ f, f < F → rd μ1 236 f = p_fU U ρ D f := fun f hf => h3 f (by omega)
  have c0 : rd μ1 C 0 = rd μ C 0 := (h2 C (by simp; omega)).1 0
  have c1 : rd μ1 C 1 = rd μ C 1 := (h2 C (by simp; omega)).1 1
  obtain ⟨μ2, e2, s2, g2⟩ := X_sC (n := n) (F := F) (B := B) (c := rd μ1 C 0) (b := rd μ1 C 1) (ρ := ρ) (μ := μ1) hB (by rw [(h2 B (by simp; omega)).1]; exact hF) h8 har (fun f hf => by rw [(h2 (B + 1) (by simp; omega)).1]; exact hra f hf) (gn_co hU hg) hn
  refine ⟨μ2, ?_, sx_tr (sx_mo h2 (by simp)) (sx_mo s2 (by simp)), fun i hi => ?_, fun f hf => by rw [(s2 236 (by simp)).1]; exact h3 f hf⟩
  · refine Eq.trans e ?_
    rw [e2, bv_some]
  · have h := g2 i hi
    rw [c0, c1] at h
    refine ⟨h.1, h.2.trans ?_⟩
    unfold p_usd
    have hs : sI (rd μ1 236) F = sI (p_fU U ρ D) F := sI_co F hg
    rw [hs]
    by_cases h0 : sI (p_fU U ρ D) F ≤ 0
    · rw [if_pos h0, if_pos h0]
    · rw [if_neg h0, if_neg h0]
      exact p_sh_co (by omega) hg hi

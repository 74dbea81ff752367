/-! THE RELATION whole; acts are recorded on both sides -/
def RHs (μ ν : hb_m) : Prop := ∃ h o, h ≤ 4 ∧ o < 4 ∧ rd μ 229 1 = nI o ∧ rd μ 229 2 = nI h ∧ rd ν 0 2 = nI h ∧ ∀ i, i < h → Sim μ (76 + 38 * ((o + i) % 4)) (fun k => rd ν 2 (415 * i + k))
def RSn (μ ν : hb_m) : Prop := rd μ 228 2 = rd ν 0 4 ∧ (rd ν 0 4 = 0 ∨ (rd ν 0 4 = 1 ∧ Sim μ 38 (rd ν 3)))
def RTx (μ ν : hb_m) : Prop := ∃ t, t ≤ 60 ∧ rd μ 231 1 = nI t ∧ rd ν 0 6 = nI t ∧ ∀ i, i < t → rd μ 232 i = rd ν 4 i
def RR (μ ν : hb_m) : Prop := Sim μ 0 (rd ν 1) ∧ RHs μ ν ∧ RSn μ ν ∧ RTx μ ν
theorem RHs_fr {μ μ' ν ν' : hb_m} (h : RHs μ ν) (h1 : ∀ k i, 76 ≤ k → k < 228 → rd μ' k i = rd μ k i) (h2 : rd μ' 229 1 = rd μ 229 1) (h3 : rd μ' 229 2 = rd μ 229 2) (h4 : rd ν' 0 2 = rd ν 0 2) (h5 : ∀ i, rd ν' 2 i = rd ν 2 i) : RHs μ' ν' := by
  obtain ⟨h, o, a1, a2, a3, a4, a5, a6⟩ := h
  refine ⟨h, o, a1, a2, h2.trans a3, h3.trans a4, h4.trans a5, fun i hi => ?_⟩
  exact Sim_row (Sim_fr (a6 i hi) (fun k j b1 b2 _ => h1 k j (by omega) (by omega))) (fun k _ => h5 _)
theorem RSn_fr {μ μ' ν ν' : hb_m} (h : RSn μ ν) (h1 : ∀ k i, 38 ≤ k → k < 76 → rd μ' k i = rd μ k i) (h2 : rd μ' 228 2 = rd μ 228 2) (h4 : rd ν' 0 4 = rd ν 0 4) (h5 : ∀ i, rd ν' 3 i = rd ν 3 i) : RSn μ' ν' := by
  obtain ⟨a1, a2⟩ := h
  refine ⟨by rw [h2, h4]; exact a1, ?_⟩
  rcases a2 with a2 | ⟨a2, a3⟩
  · exact Or.inl (h4.trans a2)
  · exact Or.inr ⟨h4.trans a2, Sim_row (Sim_fr a3 (fun k j b1 b2 _ => h1 k j (by omega) (by omega))) (fun k _ => h5 _)⟩
theorem RTx_fr {μ μ' ν ν' : hb_m} (h : RTx μ ν) (h1 : ∀ i, rd μ' 232 i = rd μ 232 i) (h2 : rd μ' 231 1 = rd μ 231 1) (h4 : rd ν' 0 6 = rd ν 0 6) (h5 : ∀ i, rd ν' 4 i = rd ν 4 i) : RTx μ' ν' := by
  obtain ⟨t, a1, a2, a3, a4⟩ := h
  exact ⟨t, a1, h2.trans a2, h4.trans a3, fun i hi => by rw [h1, h5]; exact a4 i hi⟩
/-- what the class's memory may change without touching the relation but for the house that is now -/
def fX (μ μ' : hb_m) : Prop := ∀ k i, (38 ≤ k ∧ k < 231 ∨ k = 232 ∨ k = 231 ∧ i = 1) → rd μ' k i = rd μ k i
def fM (ν ν' : hb_m) : Prop := ∀ k i, (k = 0 ∧ (i = 2 ∨ i = 4 ∨ i = 6) ∨ 2 ≤ k ∧ k ≤ 4) → rd ν' k i = rd ν k i
theorem fX_rf {μ : hb_m} : fX μ μ := fun _ _ _ => rfl
theorem fM_rf {μ : hb_m} : fM μ μ := fun _ _ _ => rfl
theorem fX_tr {μ μ1 μ2 : hb_m} (h : fX μ μ1) (h1 : fX μ1 μ2) : fX μ μ2 := fun k i hk => (h1 k i hk).trans (h k i hk)
theorem fM_tr {μ μ1 μ2 : hb_m} (h : fM μ μ1) (h1 : fM μ1 μ2) : fM μ μ2 := fun k i hk => (h1 k i hk).trans (h k i hk)
theorem RR_now {μ μ' ν ν' : hb_m} (h : RR μ ν) (h1 : fX μ μ') (h2 : fM ν ν') (h3 : Sim μ' 0 (rd ν' 1)) : RR μ' ν' := by
  obtain ⟨-, a2, a3, a4⟩ := h
  refine ⟨h3, RHs_fr a2 (fun k i b1 b2 => h1 k i (by omega)) (h1 _ _ (by omega)) (h1 _ _ (by omega)) (h2 _ _ (by omega)) (fun i => h2 _ _ (by omega)), RSn_fr a3 (fun k i b1 b2 => h1 k i (by omega)) (h1 _ _ (by omega)) (h2 _ _ (by omega)) (fun i => h2 _ _ (by omega)), RTx_fr a4 (fun i => h1 _ _ (by omega)) (h1 _ _ (by omega)) (h2 _ _ (by omega)) (fun i => h2 _ _ (by omega))⟩
/-- queries: only rows that the relation does not name are changed -/
theorem RR_q {μ μ' ν ν' : hb_m} (h : RR μ ν) (h1 : fX μ μ') (h2 : fM ν ν') (h3 : ∀ k i, k < 38 → k ≠ 11 → rd μ' k i = rd μ k i) (h4 : ∀ i, rd ν' 1 i = rd ν 1 i) : RR μ' ν' :=
  RR_now h h1 h2 (Sim_row (Sim_fr h.1 (fun k i _ b2 b3 => h3 k i (by omega) (by omega))) (fun k _ => h4 k))
theorem rem4 {a : Nat} (h : a < 2147483648) : nI a - nI a / 4 * 4 = nI (a % 4) := by
  rw [li4]
  exact pk_rem h (by omega) (by omega)
theorem X_rem {n o h : Nat} {μ : hb_m} (ho : rd μ 229 1 = nI o) (ho4 : o < 4) (hh : rd μ 229 2 = nI h) (h4 : h ≤ 4) (hb : ∀ i, i < 20 → rd μ (0 + 6) i = 0 ∨ rd μ (0 + 6) i = 1) (hn : 2147483648 ≤ n) : ∃ μ', fX1_remember n 0 μ = some μ' ∧ rd μ' 229 1 = nI (if h = 4 then (o + 1) % 4 else o) ∧ rd μ' 229 2 = nI (if h = 4 then 4 else h + 1) ∧ (∀ r i, vH r i → rd μ' (76 + 38 * ((o + h) % 4) + r) i = rd μ (0 + r) i) ∧ (∀ y q i, y < 4 → vY q i → rd μ' (76 + 38 * ((o + h) % 4) + 14 + 6 * y + q) i = rd μ (0 + 14 + 6 * y + q) i) ∧ (∀ k i, (k < 76 + 38 * ((o + h) % 4) ∨ 76 + 38 * ((o + h) % 4) + 38 ≤ k) → (k ≠ 229 ∨ (i ≠ 1 ∧ i ≠ 2)) → rd μ' k i = rd μ k i) := by
  have hm : (o + h) % 4 < 4 := Nat.mod_lt _ (by omega)
  unfold fX1_remember
  rw [ho, hh, nI_add, rem4 (by omega), ib_ok hm (by omega), if_pos rfl, cl_ok (by omega)]
  obtain ⟨m1, e1, c1, c2, c3, c4⟩ := X_cpH (n := n) (B := 76 + 38 * ((o + h) % 4)) (C := 0) (μ := μ) (by omega) hb hn
  have b2 : rd m1 229 2 = nI h := by rw [c3 _ _ (by omega)]; exact hh
  have b1 : rd m1 229 1 = nI o := by rw [c3 _ _ (by omega)]; exact ho
  rw [e1, bv_some, b2, b1]
  by_cases e4 : h = 4
  · subst e4
    rw [if_pos (by decide), li1, nI_add, rem4 (by omega)]
    refine ⟨_, rfl, ?_, ?_, fun r i hv => ?_, fun y q i hy hv => ?_, fun k i hk hk2 => ?_⟩
    · rw [rd_wr, if_pos ⟨rfl, rfl⟩, if_pos rfl]
    · rw [rd_wr, if_neg (by omega), b2, if_pos rfl]
    · rw [rd_wr, if_neg (by unfold vH vY at hv; omega)]; exact c1 r i hv
    · rw [rd_wr, if_neg (by unfold vY at hv; omega)]; exact c2 y q i hy hv
    · rw [rd_wr, if_neg (by omega)]; exact c3 k i hk
  · rw [if_neg (by rw [li4, le_ok (by omega) (by omega)]; omega), li1, nI_add]
    refine ⟨_, rfl, ?_, ?_, fun r i hv => ?_, fun y q i hy hv => ?_, fun k i hk hk2 => ?_⟩
    · rw [rd_wr, if_neg (by omega), b1, if_neg e4]
    · rw [rd_wr, if_pos ⟨rfl, rfl⟩, if_neg e4]
    · rw [rd_wr, if_neg (by unfold vH vY at hv; omega)]; exact c1 r i hv
    · rw [rd_wr, if_neg (by unfold vY at hv; omega)]; exact c2 y q i hy hv
    · rw [rd_wr, if_neg (by omega)]; exact c3 k i hk
/-- AN ACT IS RECORDED on both sides -/
theorem RR_act {n : Nat} {μ ν : hb_m} (h : RR μ ν) (hn : 2147483648 ≤ n) : ∃ μ' ν', fX1_remember n 0 μ = some μ' ∧ fX6_records n ν = some ν' ∧ RR μ' ν' ∧ (∀ k i, k < 76 ∨ 230 ≤ k → rd μ' k i = rd μ k i) ∧ (∀ k i, k ≠ 2 → (k ≠ 0 ∨ i ≠ 2) → rd ν' k i = rd ν k i) := by
  obtain ⟨a1, ⟨h, o, b1, b2, b3, b4, b5, b6⟩, a3, a4⟩ := h
  have hb := Sim_bool a1
  obtain ⟨μ', e1, c1, c2, c3, c4, c5⟩ := X_rem b3 b2 b4 b1 hb hn
  obtain ⟨ν', e2, d1, d2, d3, d4, d5⟩ := M_rec b5 b1 hn
  have hm : (o + h) % 4 < 4 := Nat.mod_lt _ (by omega)
  refine ⟨μ', ν', e1, e2, ⟨?_, ?_, ?_, ?_⟩, fun k i hk => c5 k i (by omega) (by omega), d4⟩
  · refine Sim_row (Sim_fr a1 (fun k i _ q _ => c5 k i (by omega) (by omega))) (fun k _ => d4 _ _ (by omega) (by omega))
  · have hnew : ∀ (σ : Nat → Int32), (∀ k, k < 415 → σ k = rd ν 1 k) → Sim μ' (76 + 38 * ((o + h) % 4)) σ := by
      intro σ hs
      obtain ⟨F, D, Y, hi, hr⟩ := a1
      exact Sim_row ⟨F, D, Y, hi, Rep_fr hr hi.1.1 hi.1.2.1 hi.1.2.2 (fun r i hv _ => c3 r i hv) c4⟩ hs
    have hold : ∀ j (ρ σ : Nat → Int32), j < 4 → j ≠ (o + h) % 4 → Sim μ (76 + 38 * j) ρ → (∀ k, k < 415 → σ k = ρ k) → Sim μ' (76 + 38 * j) σ := by
      intro j ρ σ hj hne hs hk
      exact Sim_row (Sim_fr hs (fun k i q1 q2 _ => c5 k i (by omega) (by omega))) hk
    by_cases e4 : h = 4
    · subst e4
      rw [if_pos rfl] at c1 c2 d1
      refine ⟨4, (o + 1) % 4, by omega, Nat.mod_lt _ (by omega), c1, c2, d1, fun i hi => ?_⟩
      by_cases h3 : i = 3
      · subst h3
        rw [show ((o + 1) % 4 + 3) % 4 = (o + 4) % 4 by omega]
        exact hnew _ (fun k hk => by have := d3 k hk; rw [if_pos rfl] at this; exact this)
      · refine hold _ _ _ (Nat.mod_lt _ (by omega)) (by omega) (b6 (i + 1) (by omega) |> fun z => by rw [show ((o + 1) % 4 + i) % 4 = (o + (i + 1)) % 4 by omega]; exact z) (fun k hk => ?_)
        have := d2 i k (by rw [if_pos rfl]; omega) hk
        rw [if_pos rfl] at this
        exact this
    · rw [if_neg e4] at c1 c2 d1
      refine ⟨h + 1, o, by omega, b2, c1, c2, d1, fun i hi => ?_⟩
      by_cases h3 : i = h
      · subst h3
        exact hnew _ (fun k hk => by have := d3 k hk; rw [if_neg e4] at this; exact this)
      · refine hold _ _ _ (Nat.mod_lt _ (by omega)) (by omega) (b6 i (by omega)) (fun k hk => ?_)
        have := d2 i k (by rw [if_neg e4]; omega) hk
        rw [if_neg e4] at this
        exact this
  · exact RSn_fr a3 (fun k i q1 q2 => c5 k i (by omega) (by omega)) (c5 _ _ (by omega) (by omega)) (d4 _ _ (by omega) (by omega)) (fun i => d4 _ _ (by omega) (by omega))
  · exact RTx_fr a4 (fun i => c5 _ _ (by omega) (by omega)) (c5 _ _ (by omega) (by omega)) (d4 _ _ (by omega) (by omega)) (fun i => d4 _ _ (by omega) (by omega))

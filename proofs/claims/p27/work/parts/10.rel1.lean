/-! THE RELATION between the class's memory and the reference's -/
def Inv (ρ : Nat → Int32) (F D Y : Nat) : Prop :=
  (F ≤ 8 ∧ D ≤ 20 ∧ Y ≤ 4) ∧ (ρ 0 = nI F ∧ ρ 1 = nI D ∧ ρ 2 = nI Y) ∧
  (∀ f, f < F → rg (ρ (7 + 3 * f)) 1 200) ∧
  (∀ f, f < F → rg (ρ (8 + 3 * f)) 0 11) ∧
  (∀ f, f < F → ρ (8 + 3 * f) = 0 → ρ (9 + 3 * f) = -5) ∧
  (∀ d, d < D → ∃ a, a < F ∧ ρ (31 + 5 * d) = nI a) ∧
  (∀ d, d < D → rg (ρ (32 + 5 * d)) 1 20) ∧
  (∀ d, d < D → rg (ρ (34 + 5 * d)) 0 9999 ∧ rg (ρ (33 + 5 * d)) 0 9999 ∧ (ρ (33 + 5 * d)).toNatClampNeg ≤ (ρ (34 + 5 * d)).toNatClampNeg) ∧
  (∀ d, d < D → ρ (35 + 5 * d) = 0 ∨ ρ (35 + 5 * d) = 1) ∧
  (∀ y, y < Y → ∃ E, E ≤ D ∧ ρ (133 + 71 * y) = nI E ∧ ∀ d, d < E → rg (ρ (134 + 71 * y + d)) 0 79992000) ∧
  (∀ y f, y < Y → f < F → rg (ρ (154 + 71 * y + 2 * f)) 0 11)
def RepY (μ : hb_m) (C : Nat) (ρ : Nat → Int32) (y F : Nat) : Prop :=
  rd μ C 0 = ρ (131 + 71 * y) ∧ rd μ C 1 = ρ (132 + 71 * y) ∧ rd μ C 2 = ρ (133 + 71 * y) ∧
  (∀ d, d < 20 → nI d < ρ (133 + 71 * y) → rd μ (C + 3) d = ρ (134 + 71 * y + d)) ∧
  (∀ f, f < F → rd μ (C + 1) f = if ρ (154 + 71 * y + 2 * f) = 0 then -5 else ρ (154 + 71 * y + 2 * f)) ∧
  (∀ f, f < F → rd μ (C + 2) f = ρ (155 + 71 * y + 2 * f)) ∧
  (∀ k, k < 16 → rd μ (C + 4) k = if k < 2 * F then ρ (170 + 71 * y + k) else 0) ∧
  (∀ k, k < 2 * F → rd μ (C + 5) k = ρ (186 + 71 * y + k))
def Rep (μ : hb_m) (B : Nat) (ρ : Nat → Int32) (F D Y : Nat) : Prop :=
  (rd μ B 0 = nI F ∧ rd μ B 7 = ρ 5 ∧ rd μ B 8 = ρ 6 ∧ rd μ B 10 = nI Y) ∧
  (rd μ (B + 8) 0 = ρ 3 ∧ rd μ (B + 8) 1 = ρ 4 ∧ rd μ (B + 8) 2 = nI D) ∧
  (∀ f, f < F → rd μ (B + 1) f = ρ (7 + 3 * f)) ∧
  (∀ f, f < 8 → rd μ (B + 9) f = if f < F ∧ ¬ ρ (8 + 3 * f) = 0 then ρ (8 + 3 * f) else -5) ∧
  (∀ f, f < 8 → rd μ (B + 10) f = if f < F then ρ (9 + 3 * f) else -5) ∧
  (∀ d, d < D → rd μ (B + 2) d = ρ (31 + 5 * d) ∧ rd μ (B + 3) d = ρ (32 + 5 * d)) ∧
  (∀ d, d < 20 → rd μ (B + 4) d = if d < D then ρ (33 + 5 * d) else 0) ∧
  (∀ d, d < 20 → rd μ (B + 5) d = if d < D then ρ (34 + 5 * d) else 0) ∧
  (∀ d, d < 20 → rd μ (B + 6) d = if d < D then ρ (35 + 5 * d) else 0) ∧
  (∀ y, y < Y → RepY μ (B + 14 + 6 * y) ρ y F) ∧
  (∀ k, k < 16 → rd μ (B + 13) k = 0)
def Sim (μ : hb_m) (B : Nat) (ρ : Nat → Int32) : Prop := ∃ F D Y, Inv ρ F D Y ∧ Rep μ B ρ F D Y
theorem RepY_fr {μ μ' : hb_m} {C C' y F : Nat} {ρ : Nat → Int32} (h : RepY μ C ρ y F) (hF : F ≤ 8) (h1 : ∀ q i, vY q i → rd μ' (C' + q) i = rd μ (C + q) i) : RepY μ' C' ρ y F := by
  obtain ⟨a0, a1, a2, a3, a4, a5, a6, a7⟩ := h
  refine ⟨?_, ?_, ?_, fun d hd hl => ?_, fun f hf => ?_, fun f hf => ?_, fun k hk => ?_, fun k hk => ?_⟩
  · exact (h1 0 0 (by unfold vY; omega)).trans a0
  · exact (h1 0 1 (by unfold vY; omega)).trans a1
  · exact (h1 0 2 (by unfold vY; omega)).trans a2
  · exact (h1 3 d (by unfold vY; omega)).trans (a3 d hd hl)
  · exact (h1 1 f (by unfold vY; omega)).trans (a4 f hf)
  · exact (h1 2 f (by unfold vY; omega)).trans (a5 f hf)
  · exact (h1 4 k (by unfold vY; omega)).trans (a6 k hk)
  · exact (h1 5 k (by unfold vY; omega)).trans (a7 k hk)
theorem RepY_row {μ : hb_m} {C y F : Nat} {ρ σ : Nat → Int32} (h : RepY μ C ρ y F) (hF : F ≤ 8) (h1 : ∀ k, 131 + 71 * y ≤ k → k < 202 + 71 * y → σ k = ρ k) : RepY μ C σ y F := by
  obtain ⟨a0, a1, a2, a3, a4, a5, a6, a7⟩ := h
  refine ⟨?_, ?_, ?_, fun d hd hl => ?_, fun f hf => ?_, fun f hf => ?_, fun k hk => ?_, fun k hk => ?_⟩
  · rw [h1 _ (by omega) (by omega)]; exact a0
  · rw [h1 _ (by omega) (by omega)]; exact a1
  · rw [h1 _ (by omega) (by omega)]; exact a2
  · rw [h1 _ (by omega) (by omega)] at hl
    rw [h1 _ (by omega) (by omega)]; exact a3 d hd hl
  · rw [h1 _ (by omega) (by omega)]; exact a4 f hf
  · rw [h1 _ (by omega) (by omega)]; exact a5 f hf
  · rw [a6 k hk]
    by_cases h2 : k < 2 * F
    · rw [if_pos h2, if_pos h2, h1 _ (by omega) (by omega)]
    · rw [if_neg h2, if_neg h2]
  · rw [h1 _ (by omega) (by omega)]; exact a7 k hk
theorem Rep_row {μ : hb_m} {B F D Y : Nat} {ρ σ : Nat → Int32} (h : Rep μ B ρ F D Y) (hF : F ≤ 8) (hD : D ≤ 20) (hY : Y ≤ 4) (h1 : ∀ k, k < 415 → σ k = ρ k) : Rep μ B σ F D Y := by
  obtain ⟨⟨a0, a1, a2, a3⟩, ⟨b0, b1, b2⟩, c1, c2, c3, d1, d2, d3, d4, y1, z1⟩ := h
  refine ⟨⟨a0, ?_, ?_, a3⟩, ⟨?_, ?_, b2⟩, fun f hf => ?_, fun f hf => ?_, fun f hf => ?_, fun d hd => ?_, fun d hd => ?_, fun d hd => ?_, fun d hd => ?_, fun y hy => ?_, z1⟩
  · rw [h1 _ (by omega)]; exact a1
  · rw [h1 _ (by omega)]; exact a2
  · rw [h1 _ (by omega)]; exact b0
  · rw [h1 _ (by omega)]; exact b1
  · rw [h1 _ (by omega)]; exact c1 f hf
  · rw [h1 _ (by omega)]; exact c2 f hf
  · rw [h1 _ (by omega)]; exact c3 f hf
  · rw [h1 _ (by omega), h1 _ (by omega)]; exact d1 d hd
  · rw [h1 _ (by omega)]; exact d2 d hd
  · rw [h1 _ (by omega)]; exact d3 d hd
  · rw [h1 _ (by omega)]; exact d4 d hd
  · exact RepY_row (y1 y hy) hF (fun k _ hk => h1 k (by omega))
theorem Inv_row {F D Y : Nat} {ρ σ : Nat → Int32} (h : Inv ρ F D Y) (h1 : ∀ k, k < 415 → σ k = ρ k) : Inv σ F D Y := by
  obtain ⟨⟨hF, hD, hY⟩, ⟨a0, a1, a2⟩, b1, b2, b3, c1, c2, c3, c4, y1, y2⟩ := h
  refine ⟨⟨hF, hD, hY⟩, ⟨?_, ?_, ?_⟩, fun f hf => ?_, fun f hf => ?_, fun f hf => ?_, fun d hd => ?_, fun d hd => ?_, fun d hd => ?_, fun d hd => ?_, fun y hy => ?_, fun y f hy hf => ?_⟩
  · rw [h1 _ (by omega)]; exact a0
  · rw [h1 _ (by omega)]; exact a1
  · rw [h1 _ (by omega)]; exact a2
  · rw [h1 _ (by omega)]; exact b1 f hf
  · rw [h1 _ (by omega)]; exact b2 f hf
  · rw [h1 _ (by omega), h1 _ (by omega)]; exact b3 f hf
  · rw [h1 _ (by omega)]; exact c1 d hd
  · rw [h1 _ (by omega)]; exact c2 d hd
  · rw [h1 _ (by omega), h1 _ (by omega)]; exact c3 d hd
  · rw [h1 _ (by omega)]; exact c4 d hd
  · obtain ⟨E, e1, e2, e3⟩ := y1 y hy
    refine ⟨E, e1, by rw [h1 _ (by omega)]; exact e2, fun d hd => ?_⟩
    rw [h1 _ (by omega)]; exact e3 d hd
  · rw [h1 _ (by omega)]; exact y2 y f hy hf
theorem Rep_fr {μ μ' : hb_m} {B C F D Y : Nat} {ρ : Nat → Int32} (h : Rep μ C ρ F D Y) (hF : F ≤ 8) (hD : D ≤ 20) (hY : Y ≤ 4) (h1 : ∀ r i, vH r i → r ≠ 11 → rd μ' (B + r) i = rd μ (C + r) i) (h2 : ∀ y q i, y < 4 → vY q i → rd μ' (B + 14 + 6 * y + q) i = rd μ (C + 14 + 6 * y + q) i) : Rep μ' B ρ F D Y := by
  obtain ⟨⟨a0, a1, a2, a3⟩, ⟨b0, b1, b2⟩, c1, c2, c3, d1, d2, d3, d4, y1, z1⟩ := h
  refine ⟨⟨?_, ?_, ?_, ?_⟩, ⟨?_, ?_, ?_⟩, fun f hf => ?_, fun f hf => ?_, fun f hf => ?_, fun d hd => ?_, fun d hd => ?_, fun d hd => ?_, fun d hd => ?_, fun y hy => ?_, fun k hk => ?_⟩
  · exact (h1 0 0 (by unfold vH; omega) (by omega)).trans a0
  · exact (h1 0 7 (by unfold vH; omega) (by omega)).trans a1
  · exact (h1 0 8 (by unfold vH; omega) (by omega)).trans a2
  · exact (h1 0 10 (by unfold vH; omega) (by omega)).trans a3
  · exact (h1 8 0 (by unfold vH vY; omega) (by omega)).trans b0
  · exact (h1 8 1 (by unfold vH vY; omega) (by omega)).trans b1
  · exact (h1 8 2 (by unfold vH vY; omega) (by omega)).trans b2
  · exact (h1 1 f (by unfold vH vY; omega) (by omega)).trans (c1 f hf)
  · exact (h1 9 f (by unfold vH vY; omega) (by omega)).trans (c2 f hf)
  · exact (h1 10 f (by unfold vH vY; omega) (by omega)).trans (c3 f hf)
  · exact ⟨(h1 2 d (by unfold vH vY; omega) (by omega)).trans (d1 d hd).1, (h1 3 d (by unfold vH vY; omega) (by omega)).trans (d1 d hd).2⟩
  · exact (h1 4 d (by unfold vH vY; omega) (by omega)).trans (d2 d hd)
  · exact (h1 5 d (by unfold vH vY; omega) (by omega)).trans (d3 d hd)
  · exact (h1 6 d (by unfold vH vY; omega) (by omega)).trans (d4 d hd)
  · exact RepY_fr (y1 y hy) hF (fun q i hq => h2 y q i (by omega) hq)
  · exact (h1 13 k (by unfold vH vY; omega) (by omega)).trans (z1 k hk)
theorem Sim_row {μ : hb_m} {B : Nat} {ρ σ : Nat → Int32} (h : Sim μ B ρ) (h1 : ∀ k, k < 415 → σ k = ρ k) : Sim μ B σ := by
  obtain ⟨F, D, Y, hi, hr⟩ := h
  exact ⟨F, D, Y, Inv_row hi h1, Rep_row hr hi.1.1 hi.1.2.1 hi.1.2.2 h1⟩
theorem Sim_fr {μ μ' : hb_m} {B : Nat} {ρ : Nat → Int32} (h : Sim μ B ρ) (h1 : ∀ k i, B ≤ k → k < B + 38 → k ≠ B + 11 → rd μ' k i = rd μ k i) : Sim μ' B ρ := by
  obtain ⟨F, D, Y, hi, hr⟩ := h
  refine ⟨F, D, Y, hi, Rep_fr hr hi.1.1 hi.1.2.1 hi.1.2.2 (fun r i hv hn => h1 _ _ (by omega) (by unfold vH vY at hv; omega) (by omega)) (fun y q i hy hv => h1 _ _ (by omega) (by unfold vY at hv; omega) (by omega))⟩
theorem Sim_cp {μ μ' : hb_m} {B C : Nat} {ρ : Nat → Int32} (h : Sim μ C ρ) (h1 : cpH B C μ μ') : Sim μ' B ρ := by
  obtain ⟨F, D, Y, hi, hr⟩ := h
  exact ⟨F, D, Y, hi, Rep_fr hr hi.1.1 hi.1.2.1 hi.1.2.2 (fun r i hv _ => h1.1 r i hv) h1.2.1⟩
theorem Sim_bool {μ : hb_m} {B : Nat} {ρ : Nat → Int32} (h : Sim μ B ρ) : ∀ i, i < 20 → rd μ (B + 6) i = 0 ∨ rd μ (B + 6) i = 1 := by
  obtain ⟨F, D, Y, hi, hr⟩ := h
  intro i h20
  obtain ⟨-, -, -, -, -, -, -, -, d4, -⟩ := hr
  obtain ⟨-, -, -, -, -, -, -, -, c4, -⟩ := hi
  rw [d4 i h20]
  by_cases hd : i < D
  · rw [if_pos hd]; exact c4 i hd
  · rw [if_neg hd]; exact Or.inl rfl

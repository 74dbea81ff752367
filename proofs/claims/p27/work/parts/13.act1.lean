/-! BOTH SIDES: acts; the parts of the relation -/
def IF (ρ : Nat → Int32) (F : Nat) : Prop := (∀ f, f < F → rg (ρ (7 + 3 * f)) 1 200) ∧ (∀ f, f < F → rg (ρ (8 + 3 * f)) 0 11) ∧ (∀ f, f < F → ρ (8 + 3 * f) = 0 → ρ (9 + 3 * f) = -5)
def ID (ρ : Nat → Int32) (F D : Nat) : Prop := (∀ d, d < D → ∃ a, a < F ∧ ρ (31 + 5 * d) = nI a) ∧ (∀ d, d < D → rg (ρ (32 + 5 * d)) 1 20) ∧ (∀ d, d < D → rg (ρ (34 + 5 * d)) 0 9999 ∧ rg (ρ (33 + 5 * d)) 0 9999 ∧ (ρ (33 + 5 * d)).toNatClampNeg ≤ (ρ (34 + 5 * d)).toNatClampNeg) ∧ (∀ d, d < D → ρ (35 + 5 * d) = 0 ∨ ρ (35 + 5 * d) = 1)
def IY (ρ : Nat → Int32) (F D Y : Nat) : Prop := (∀ y, y < Y → ∃ E, E ≤ D ∧ ρ (133 + 71 * y) = nI E ∧ ∀ d, d < E → rg (ρ (134 + 71 * y + d)) 0 79992000) ∧ (∀ y f, y < Y → f < F → rg (ρ (154 + 71 * y + 2 * f)) 0 11)
theorem Inv_mk {ρ : Nat → Int32} {F D Y : Nat} (h1 : F ≤ 8 ∧ D ≤ 20 ∧ Y ≤ 4) (h2 : ρ 0 = nI F ∧ ρ 1 = nI D ∧ ρ 2 = nI Y) (h3 : IF ρ F) (h4 : ID ρ F D) (h5 : IY ρ F D Y) : Inv ρ F D Y := ⟨h1, h2, h3.1, h3.2.1, h3.2.2, h4.1, h4.2.1, h4.2.2.1, h4.2.2.2, h5.1, h5.2⟩
theorem Inv_get {ρ : Nat → Int32} {F D Y : Nat} (h : Inv ρ F D Y) : (F ≤ 8 ∧ D ≤ 20 ∧ Y ≤ 4) ∧ (ρ 0 = nI F ∧ ρ 1 = nI D ∧ ρ 2 = nI Y) ∧ IF ρ F ∧ ID ρ F D ∧ IY ρ F D Y := by
  obtain ⟨h1, h2, a, b, c, d, e, f, g, i, j⟩ := h
  exact ⟨h1, h2, ⟨a, b, c⟩, ⟨d, e, f, g⟩, ⟨i, j⟩⟩
theorem IF_fr {ρ σ : Nat → Int32} {F : Nat} (h : IF ρ F) (h8 : F ≤ 8) (e : ∀ k, 7 ≤ k → k < 31 → σ k = ρ k) : IF σ F := by
  obtain ⟨a, b, c⟩ := h
  refine ⟨fun f hf => ?_, fun f hf => ?_, fun f hf => ?_⟩
  · rw [e _ (by omega) (by omega)]; exact a f hf
  · rw [e _ (by omega) (by omega)]; exact b f hf
  · rw [e _ (by omega) (by omega), e _ (by omega) (by omega)]; exact c f hf
theorem ID_fr {ρ σ : Nat → Int32} {F G D : Nat} (h : ID ρ F D) (hFG : F ≤ G) (h20 : D ≤ 20) (e : ∀ k, 31 ≤ k → k < 131 → σ k = ρ k) : ID σ G D := by
  obtain ⟨a, b, c, d⟩ := h
  refine ⟨fun f hf => ?_, fun f hf => ?_, fun f hf => ?_, fun f hf => ?_⟩
  · rw [e _ (by omega) (by omega)]
    obtain ⟨x, hx, ex⟩ := a f hf
    exact ⟨x, by omega, ex⟩
  · rw [e _ (by omega) (by omega)]; exact b f hf
  · rw [e _ (by omega) (by omega), e _ (by omega) (by omega)]; exact c f hf
  · rw [e _ (by omega) (by omega)]; exact d f hf
theorem IY_fr {ρ σ : Nat → Int32} {F D E Y : Nat} (h : IY ρ F D Y) (hDE : D ≤ E) (h20 : D ≤ 20) (h8 : F ≤ 8) (e : ∀ y k, y < Y → k < 71 → σ (131 + 71 * y + k) = ρ (131 + 71 * y + k)) : IY σ F E Y := by
  obtain ⟨a, b⟩ := h
  refine ⟨fun y hy => ?_, fun y f hy hf => ?_⟩
  · obtain ⟨x, hx, ex, hd⟩ := a y hy
    refine ⟨x, by omega, ?_, fun d hd' => ?_⟩
    · have := e y 2 hy (by omega)
      rw [show 131 + 71 * y + 2 = 133 + 71 * y by omega] at this
      rw [this]; exact ex
    · have := e y (3 + d) hy (by omega)
      rw [show 131 + 71 * y + (3 + d) = 134 + 71 * y + d by omega] at this
      rw [this]; exact hd d hd'
  · have := e y (23 + 2 * f) hy (by omega)
    rw [show 131 + 71 * y + (23 + 2 * f) = 154 + 71 * y + 2 * f by omega] at this
    rw [this]; exact b y f hy hf
def RS (μ : hb_m) (ρ : Nat → Int32) (F D Y : Nat) : Prop := (rd μ 0 0 = nI F ∧ rd μ 0 7 = ρ 5 ∧ rd μ 0 8 = ρ 6 ∧ rd μ 0 10 = nI Y) ∧ (rd μ 8 0 = ρ 3 ∧ rd μ 8 1 = ρ 4 ∧ rd μ 8 2 = nI D)
def RF (μ : hb_m) (ρ : Nat → Int32) (F : Nat) : Prop := (∀ f, f < F → rd μ 1 f = ρ (7 + 3 * f)) ∧ (∀ f, f < 8 → rd μ 9 f = if f < F ∧ ¬ ρ (8 + 3 * f) = 0 then ρ (8 + 3 * f) else -5) ∧ (∀ f, f < 8 → rd μ 10 f = if f < F then ρ (9 + 3 * f) else -5)
def RD (μ : hb_m) (ρ : Nat → Int32) (D : Nat) : Prop := (∀ d, d < D → rd μ 2 d = ρ (31 + 5 * d) ∧ rd μ 3 d = ρ (32 + 5 * d)) ∧ (∀ d, d < 20 → rd μ 4 d = if d < D then ρ (33 + 5 * d) else 0) ∧ (∀ d, d < 20 → rd μ 5 d = if d < D then ρ (34 + 5 * d) else 0) ∧ (∀ d, d < 20 → rd μ 6 d = if d < D then ρ (35 + 5 * d) else 0)
def RY (μ : hb_m) (ρ : Nat → Int32) (F Y : Nat) : Prop := (∀ y, y < Y → RepY μ (14 + 6 * y) ρ y F) ∧ ∀ k, k < 16 → rd μ 13 k = 0
theorem Rep_mk {μ : hb_m} {ρ : Nat → Int32} {F D Y : Nat} (h1 : RS μ ρ F D Y) (h2 : RF μ ρ F) (h3 : RD μ ρ D) (h4 : RY μ ρ F Y) : Rep μ 0 ρ F D Y := by
  refine ⟨h1.1, h1.2, h2.1, h2.2.1, h2.2.2, h3.1, h3.2.1, h3.2.2.1, h3.2.2.2, fun y hy => ?_, h4.2⟩
  rw [Nat.zero_add]
  exact h4.1 y hy
theorem Rep_get {μ : hb_m} {ρ : Nat → Int32} {F D Y : Nat} (h : Rep μ 0 ρ F D Y) : RS μ ρ F D Y ∧ RF μ ρ F ∧ RD μ ρ D ∧ RY μ ρ F Y := by
  obtain ⟨a, b, c, d, e, f, g, i, j, k, z⟩ := h
  refine ⟨⟨a, b⟩, ⟨c, d, e⟩, ⟨f, g, i, j⟩, fun y hy => ?_, z⟩
  have := k y hy
  rw [Nat.zero_add] at this
  exact this
theorem RF_fr {μ μ' : hb_m} {ρ σ : Nat → Int32} {F : Nat} (h : RF μ ρ F) (h8 : F ≤ 8) (x : ∀ k i, k = 1 ∨ k = 9 ∨ k = 10 → rd μ' k i = rd μ k i) (e : ∀ k, 7 ≤ k → k < 31 → σ k = ρ k) : RF μ' σ F := by
  obtain ⟨a, b, c⟩ := h
  refine ⟨fun f hf => ?_, fun f hf => ?_, fun f hf => ?_⟩
  · rw [x _ _ (by omega), e _ (by omega) (by omega)]; exact a f hf
  · rw [x _ _ (by omega), e _ (by omega) (by omega)]; exact b f hf
  · rw [x _ _ (by omega), e _ (by omega) (by omega)]; exact c f hf
theorem RD_fr {μ μ' : hb_m} {ρ σ : Nat → Int32} {D : Nat} (h : RD μ ρ D) (h20 : D ≤ 20) (x : ∀ k i, 2 ≤ k → k ≤ 6 → rd μ' k i = rd μ k i) (e : ∀ k, 31 ≤ k → k < 131 → σ k = ρ k) : RD μ' σ D := by
  obtain ⟨a, b, c, d⟩ := h
  refine ⟨fun f hf => ?_, fun f hf => ?_, fun f hf => ?_, fun f hf => ?_⟩
  · rw [x _ _ (by omega) (by omega), x _ _ (by omega) (by omega), e _ (by omega) (by omega), e _ (by omega) (by omega)]; exact a f hf
  · rw [x _ _ (by omega) (by omega), e _ (by omega) (by omega)]; exact b f hf
  · rw [x _ _ (by omega) (by omega), e _ (by omega) (by omega)]; exact c f hf
  · rw [x _ _ (by omega) (by omega), e _ (by omega) (by omega)]; exact d f hf
theorem RY_fr {μ μ' : hb_m} {ρ σ : Nat → Int32} {F Y : Nat} (h : RY μ ρ F Y) (h8 : F ≤ 8) (x : ∀ y k i, y < Y → k < 6 → rd μ' (14 + 6 * y + k) i = rd μ (14 + 6 * y + k) i) (e : ∀ y k, y < Y → k < 71 → σ (131 + 71 * y + k) = ρ (131 + 71 * y + k)) (z : ∀ i, rd μ' 13 i = rd μ 13 i) : RY μ' σ F Y := by
  refine ⟨fun y hy => ?_, fun k hk => (z k).trans (h.2 k hk)⟩
  refine RepY_row (RepY_fr (h.1 y hy) h8 (fun q i hv => x y q i hy (by unfold vY at hv; omega))) h8 (fun k k1 k2 => ?_)
  obtain ⟨j, rfl⟩ : ∃ j, k = 131 + 71 * y + j := ⟨k - (131 + 71 * y), by omega⟩
  exact e y j hy (by omega)
theorem RS_fr {μ μ' : hb_m} {ρ σ : Nat → Int32} {F D Y : Nat} (h : RS μ ρ F D Y) (x : ∀ k i, k = 0 ∨ k = 8 → rd μ' k i = rd μ k i) (e : ∀ k, k < 7 → σ k = ρ k) : RS μ' σ F D Y := by
  obtain ⟨⟨a, b, c, d⟩, ⟨f, g, i⟩⟩ := h
  refine ⟨⟨?_, ?_, ?_, ?_⟩, ⟨?_, ?_, ?_⟩⟩
  · rw [x _ _ (by omega)]; exact a
  · rw [x _ _ (by omega), e _ (by omega)]; exact b
  · rw [x _ _ (by omega), e _ (by omega)]; exact c
  · rw [x _ _ (by omega)]; exact d
  · rw [x _ _ (by omega), e _ (by omega)]; exact f
  · rw [x _ _ (by omega), e _ (by omega)]; exact g
  · rw [x _ _ (by omega)]; exact i
/-- an act is recorded; the house that is now stands -/
theorem A_act {n F D Y : Nat} {μ ν : hb_m} (h : RR μ ν) (hr : Rep μ 0 (rd ν 1) F D Y) (hi : Inv (rd ν 1) F D Y) (hn : 2147483648 ≤ n) : ∃ μ' ν', fX1_remember n 0 μ = some μ' ∧ fX6_records n ν = some ν' ∧ RR μ' ν' ∧ rd ν' 1 = rd ν 1 ∧ Rep μ' 0 (rd ν 1) F D Y ∧ (∀ k i, k < 76 ∨ 230 ≤ k → rd μ' k i = rd μ k i) ∧ (∀ k i, k ≠ 2 → (k ≠ 0 ∨ i ≠ 2) → rd ν' k i = rd ν k i) := by
  obtain ⟨μ', ν', e1, e2, hR, x, m⟩ := RR_act h hn
  refine ⟨μ', ν', e1, e2, hR, funext (fun i => m 1 i (by omega) (by omega)), ?_, x, m⟩
  exact Rep_fr hr hi.1.1 hi.1.2.1 hi.1.2.2 (fun r i hv _ => x _ _ (by unfold vH vY at hv; omega)) (fun y q i hy hv => x _ _ (by unfold vY at hv; omega))
theorem rg_of {p : Int32} {a b : Nat} (h0 : nI a ≤ p) (h1 : p ≤ nI b) (hb : b < 2147483648) (ha : a ≤ b) : rg p a b := by
  have h00 : ¬ p < 0 := Int32.not_lt.mpr (Int32.le_trans (nI_pos' (by omega)) h0)
  obtain ⟨j, hj, rfl⟩ := nI_of h00
  rw [le_ok (by omega) (by omega)] at h0 h1
  exact rg_mk h0 h1 hb
theorem in_cases (p lo hi : Int32) : (p < lo ∧ ¬ (lo ≤ p ∧ p ≤ hi)) ∨ (¬ p < lo ∧ ¬ p ≤ hi ∧ ¬ (lo ≤ p ∧ p ≤ hi)) ∨ (¬ p < lo ∧ p ≤ hi ∧ (lo ≤ p ∧ p ≤ hi)) := by
  by_cases h : p < lo
  · exact Or.inl ⟨h, fun q => absurd q.1 (Int32.not_le.mpr h)⟩
  · by_cases h2 : p ≤ hi
    · exact Or.inr (Or.inr ⟨h, h2, Int32.not_lt.mp h, h2⟩)
    · exact Or.inr (Or.inl ⟨h, h2, fun q => h2 q.2⟩)
theorem A_addFlat {n c : Nat} {p : Int32} {μ ν : hb_m} (h : RR μ ν) (hn : 2147483648 ≤ n) : Ac n c μ (fX5_addFlat n p μ) (fX6_addFlat n p ν) := by
  obtain ⟨F, D, Y, hi, hr⟩ := id h.1
  have hF8 := hi.1.1
  have hD20 := hi.1.2.1
  have hY4 := hi.1.2.2
  obtain ⟨-, ⟨i0, i1, i2⟩, iF, iD, iY⟩ := Inv_get hi
  obtain ⟨⟨⟨a0, a1, a2, a3⟩, ⟨b0, b1, b2⟩⟩, rF, rD, rY⟩ := Rep_get hr
  unfold fX5_addFlat fX6_addFlat
  rw [M_in, bi_some]
  rcases in_cases p 1 200 with ⟨c1, c2⟩ | ⟨c1, c2, c3⟩ | ⟨c1, c2, c3⟩
  · rw [if_pos c1, if_neg c2, if_pos rfl]
    exact ac_no rfl h (by decide)
  · rw [if_neg c1, if_neg c2, if_neg c3, if_pos rfl]
    exact ac_no rfl h (by decide)
  · rw [if_neg c1, if_pos c2, if_pos c3]
    simp only [e10, if_false]
    rw [a0, a3, show (0 : Int32).toNatClampNeg = 0 from rfl, show (2 : Int32).toNatClampNeg = 2 from rfl, show ib 0 415 = true from by decide, show ib 2 415 = true from by decide, i0, i2, if_pos rfl, if_pos rfl]
    by_cases hF : F = 8
    · subst hF
      rw [if_neg (show ¬ nI 8 < (8 : Int32) by decide), if_pos (show nI 8 = (8 : Int32) from rfl)]
      exact ac_no rfl h (by decide)
    · have hF7 : F < 8 := by omega
      rw [if_pos (show nI F < (8 : Int32) by rw [li8, lt_ok (by omega) (by omega)]; omega), if_neg (show ¬ nI F = (8 : Int32) by rw [li8, eq_ok (by omega) (by omega)]; exact hF)]
      by_cases hY : Y = 0
      · subst hY
        rw [if_pos (show nI 0 ≤ (0 : Int32) by decide), if_pos (show nI 0 ≤ (0 : Int32) by decide)]
        obtain ⟨μ1, ν1, e1, e2, hR, hm, hr1, x, m⟩ := A_act h hr hi hn
        obtain ⟨⟨⟨a0', a1', a2', a3'⟩, ⟨b0', b1', b2'⟩⟩, rF', rD', rY'⟩ := Rep_get hr1
        rw [e1, e2, bv_some, bv_some, a0', ib_ok hF7 (by omega), if_pos rfl, li7, li3, pk_mul, nI_add, li0, li1, li2, nI_add, nI_add, nI_add, nI_add, ib_ok (by omega) (by omega), ib_ok (by omega) (by omega), ib_ok (by omega) (by omega), if_pos rfl, if_pos rfl, if_pos rfl, if_pos rfl, if_pos rfl, cl_ok (by omega), cl_ok (by omega), cl_ok (by omega), cl_ok (by omega)]
        have hz : rd (wr (wr (wr ν1 1 (7 + 3 * F + 0) p) 1 (7 + 3 * F + 1) (nI 0)) 1 (7 + 3 * F + 2) (-5)) 1 0 = nI F := by rw [rd_wr, if_neg (by omega), rd_wr, if_neg (by omega), rd_wr, if_neg (by omega), hm, i0]
        rw [hz, nI_add]
        have hν : ∀ k, rd (wr (wr (wr (wr ν1 1 (7 + 3 * F + 0) p) 1 (7 + 3 * F + 1) (nI 0)) 1 (7 + 3 * F + 2) (-5)) 1 0 (nI (F + 1))) 1 k = if k = 0 then nI (F + 1) else if k = 9 + 3 * F then -5 else if k = 8 + 3 * F then 0 else if k = 7 + 3 * F then p else rd ν 1 k := by
          intro k
          rw [rd_wr, rd_wr, rd_wr, rd_wr, hm, show 7 + 3 * F + 0 = 7 + 3 * F by omega, show 7 + 3 * F + 1 = 8 + 3 * F by omega, show 7 + 3 * F + 2 = 9 + 3 * F by omega]
          simp only [true_and]
          rfl
        refine ac_ok rfl (RR_now hR (fun k i hk => by rw [rd_wr, rd_wr, if_neg (by omega), if_neg (by omega)]) (fun k i hk => by rw [rd_wr, rd_wr, rd_wr, rd_wr, if_neg (by omega), if_neg (by omega), if_neg (by omega), if_neg (by omega)]) ?_) (nI_pos' (by omega)) e1 x (fun k i hk => by rw [rd_wr, rd_wr, if_neg (by omega), if_neg (by omega)]) (fun q => JJ_g q (by rw [rd_wr, if_pos ⟨rfl, rfl⟩, li1, le_ok (by omega) (by omega)]; omega) (by rw [rd_wr, rd_wr, if_neg (by omega), if_neg (by omega)]; exact q.1.2.1) (Or.inl ⟨by rw [rd_wr, rd_wr, if_neg (by omega), if_neg (by omega)], by rw [rd_wr, rd_wr, if_neg (by omega), if_neg (by omega)], Or.inl (by rw [rd_wr, rd_wr, if_neg (by omega), if_neg (by omega)])⟩) (Or.inl (by rw [rd_wr, rd_wr, if_neg (by omega), if_neg (by omega)])) (Or.inl (by rw [rd_wr, rd_wr, if_neg (by omega), if_neg (by omega)])) (Or.inl (by rw [rd_wr, rd_wr, if_neg (by omega), if_neg (by omega)])))
        generalize (wr (wr (wr (wr ν1 1 (7 + 3 * F + 0) p) 1 (7 + 3 * F + 1) (nI 0)) 1 (7 + 3 * F + 2) (-5)) 1 0 (nI (F + 1))) = ν2 at hν ⊢
        have g7 : rd ν2 1 (7 + 3 * F) = p := by rw [hν, if_neg (by omega), if_neg (by omega), if_neg (by omega), if_pos rfl]
        have g8 : rd ν2 1 (8 + 3 * F) = 0 := by rw [hν, if_neg (by omega), if_neg (by omega), if_pos rfl]
        have g9 : rd ν2 1 (9 + 3 * F) = -5 := by rw [hν, if_neg (by omega), if_pos rfl]
        have go : ∀ k, k ≠ 0 → (k < 7 + 3 * F ∨ 10 + 3 * F ≤ k) → rd ν2 1 k = rd ν 1 k := fun k h0 hk => by rw [hν, if_neg h0, if_neg (by omega), if_neg (by omega), if_neg (by omega)]
        refine ⟨F + 1, D, 0, Inv_mk ⟨by omega, hD20, by omega⟩ ⟨by rw [hν, if_pos rfl], by rw [go _ (by omega) (by omega)]; exact i1, by rw [go _ (by omega) (by omega)]; exact i2⟩ ⟨fun f hf => ?_, fun f hf => ?_, fun f hf => ?_⟩ (ID_fr iD (by omega) hD20 (fun k k1 k2 => go k (by omega) (by omega))) ⟨fun y hy => by omega, fun y f hy => by omega⟩, Rep_mk ⟨⟨?_, ?_, ?_, ?_⟩, ⟨?_, ?_, ?_⟩⟩ ⟨fun f hf => ?_, fun f hf => ?_, fun f hf => ?_⟩ (RD_fr rD' hD20 (fun k i k1 k2 => by rw [rd_wr, rd_wr, if_neg (by omega), if_neg (by omega)]) (fun k k1 k2 => go k (by omega) (by omega))) ⟨fun y hy => by omega, fun k hk => by rw [rd_wr, rd_wr, if_neg (by omega), if_neg (by omega)]; exact rY'.2 k hk⟩⟩
        · by_cases hfF : f = F
          · subst hfF
            rw [g7]
            exact rg_of c3.1 c3.2 (by omega) (by omega)
          · rw [go _ (by omega) (by omega)]; exact iF.1 f (by omega)
        · by_cases hfF : f = F
          · subst hfF
            rw [g8]
            exact rg_mk (v := 0) (by omega) (by omega) (by omega)
          · rw [go _ (by omega) (by omega)]; exact iF.2.1 f (by omega)
        · by_cases hfF : f = F
          · subst hfF
            exact fun _ => g9
          · rw [go _ (by omega) (by omega), go _ (by omega) (by omega)]; exact iF.2.2 f (by omega)
        · rw [rd_wr, if_pos ⟨rfl, rfl⟩]
        · rw [rd_wr, rd_wr, if_neg (by omega), if_neg (by omega), go _ (by omega) (by omega)]; exact a1'
        · rw [rd_wr, rd_wr, if_neg (by omega), if_neg (by omega), go _ (by omega) (by omega)]; exact a2'
        · rw [rd_wr, rd_wr, if_neg (by omega), if_neg (by omega)]; exact a3'
        · rw [rd_wr, rd_wr, if_neg (by omega), if_neg (by omega), go _ (by omega) (by omega)]; exact b0'
        · rw [rd_wr, rd_wr, if_neg (by omega), if_neg (by omega), go _ (by omega) (by omega)]; exact b1'
        · rw [rd_wr, rd_wr, if_neg (by omega), if_neg (by omega)]; exact b2'
        · rw [rd_wr, rd_wr, if_neg (by omega)]
          by_cases hfF : f = F
          · subst hfF
            rw [if_pos ⟨by omega, rfl⟩, g7]
          · rw [if_neg (by omega), go _ (by omega) (by omega)]; exact rF'.1 f (by omega)
        · rw [rd_wr, rd_wr, if_neg (by omega), if_neg (by omega)]
          refine (rF'.2.1 f hf).trans ?_
          by_cases hfF : f = F
          · subst hfF
            rw [g8, if_neg (by omega), if_neg (by simp)]
          · by_cases hlt : f < F
            · rw [go _ (by omega) (by omega)]
              by_cases z : rd ν 1 (8 + 3 * f) = 0
              · rw [if_neg (fun q => q.2 z), if_neg (fun q => q.2 z)]
              · rw [if_pos ⟨hlt, z⟩, if_pos ⟨by omega, z⟩]
            · rw [if_neg (by omega), if_neg (by omega)]
        · rw [rd_wr, rd_wr, if_neg (by omega), if_neg (by omega)]
          refine (rF'.2.2 f hf).trans ?_
          by_cases hfF : f = F
          · subst hfF
            rw [if_neg (by omega), if_pos (by omega), g9]
          · by_cases hlt : f < F
            · rw [if_pos hlt, if_pos (by omega), go _ (by omega) (by omega)]
            · rw [if_neg hlt, if_neg (by omega)]
      · have hYn : ¬ nI Y ≤ (0 : Int32) := by rw [li0, le_ok (by omega) (by omega)]; omega
        rw [if_neg hYn, if_neg hYn]
        exact ac_no rfl h (by decide)
theorem O_addFlat {n : Nat} {p : Int32} {μ ν : hb_m} (h : RR μ ν) (hn : 2147483648 ≤ n) : Op (fX5_addFlat n p μ) (fX6_addFlat n p ν) := Ac_op (A_addFlat (c := 0) h hn)

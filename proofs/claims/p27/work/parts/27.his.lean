/-! HISTORY: the latest first -/
def HR (μ : hb_m) (h : Nat) (G : Nat → Nat → Int32) : Prop := ∃ o, h ≤ 4 ∧ o < 4 ∧ rd μ 229 1 = nI o ∧ rd μ 229 2 = nI h ∧ ∀ j, j < h → Sim μ (76 + 38 * ((o + (h - 1 - j)) % 4)) (G j)
def cons1 (σ : Nat → Int32) (G : Nat → Nat → Int32) : Nat → Nat → Int32 := fun j => if j = 0 then σ else G (j - 1)
theorem HR_fX {μ μ' : hb_m} {h : Nat} {G : Nat → Nat → Int32} (a : HR μ h G) (f : fX μ μ') : HR μ' h G := by
  obtain ⟨o, a1, a2, a3, a4, a5⟩ := a
  refine ⟨o, a1, a2, (f _ _ (by omega)).trans a3, (f _ _ (by omega)).trans a4, fun j hj => ?_⟩
  have hm : (o + (h - 1 - j)) % 4 < 4 := Nat.mod_lt _ (by omega)
  exact Sim_fr (a5 j hj) (fun k i b1 b2 _ => f k i (by omega))
theorem HR_le {μ : hb_m} {h : Nat} {G G' : Nat → Nat → Int32} (a : HR μ h G) (e : ∀ j, j < h → G' j = G j) : HR μ h G' := by
  obtain ⟨o, a1, a2, a3, a4, a5⟩ := a
  exact ⟨o, a1, a2, a3, a4, fun j hj => by rw [e j hj]; exact a5 j hj⟩
theorem HR_push {n h : Nat} {μ μ1 : hb_m} {σ : Nat → Int32} {G : Nat → Nat → Int32} (hS : Sim μ 0 σ) (hH : HR μ h G) (hn : 2147483648 ≤ n) (e : fX1_remember n 0 μ = some μ1) : HR μ1 (if h = 4 then 4 else h + 1) (cons1 σ G) ∧ ∀ k i, k < 76 ∨ 228 ≤ k → k ≠ 229 → rd μ1 k i = rd μ k i := by
  obtain ⟨o, a1, a2, a3, a4, a5⟩ := hH
  obtain ⟨μ', e1, c1, c2, c3, c4, c5⟩ := X_rem a3 a2 a4 a1 (Sim_bool hS) hn
  rw [e] at e1
  cases e1
  have hm : (o + h) % 4 < 4 := Nat.mod_lt _ (by omega)
  have hnew : Sim μ1 (76 + 38 * ((o + h) % 4)) σ := by
    obtain ⟨F, D, Y, hi, hr⟩ := hS
    exact ⟨F, D, Y, hi, Rep_fr hr hi.1.1 hi.1.2.1 hi.1.2.2 (fun r i hv _ => c3 r i hv) c4⟩
  have hold : ∀ p (τ : Nat → Int32), p < 4 → p ≠ (o + h) % 4 → Sim μ (76 + 38 * p) τ → Sim μ1 (76 + 38 * p) τ := fun p τ hp hne hs => Sim_fr hs (fun k i q1 q2 _ => c5 k i (by omega) (by omega))
  refine ⟨?_, fun k i hk hk2 => c5 k i (by omega) (by omega)⟩
  by_cases e4 : h = 4
  · subst e4
    rw [if_pos rfl] at c1 c2
    rw [if_pos rfl]
    refine ⟨(o + 1) % 4, by omega, Nat.mod_lt _ (by omega), c1, c2, fun j hj => ?_⟩
    unfold cons1
    by_cases j0 : j = 0
    · subst j0
      rw [if_pos rfl, show ((o + 1) % 4 + (4 - 1 - 0)) % 4 = (o + 4) % 4 by omega]
      exact hnew
    · rw [if_neg j0]
      have h1 := a5 (j - 1) (by omega)
      have h2 : ((o + 1) % 4 + (4 - 1 - j)) % 4 = (o + (4 - 1 - (j - 1))) % 4 := by omega
      rw [h2]
      exact hold _ _ (Nat.mod_lt _ (by omega)) (by omega) h1
  · rw [if_neg e4] at c1 c2
    rw [if_neg e4]
    refine ⟨o, by omega, a2, c1, c2, fun j hj => ?_⟩
    unfold cons1
    by_cases j0 : j = 0
    · subst j0
      rw [if_pos rfl, show (o + (h + 1 - 1 - 0)) % 4 = (o + h) % 4 by omega]
      exact hnew
    · rw [if_neg j0]
      have h1 := a5 (j - 1) (by omega)
      have h2 : (o + (h + 1 - 1 - j)) % 4 = (o + (h - 1 - (j - 1))) % 4 := by omega
      rw [h2]
      exact hold _ _ (Nat.mod_lt _ (by omega)) (by omega) h1
theorem X_undo {n g : Nat} {μ : hb_m} {G : Nat → Nat → Int32} (hH : HR μ (g + 1) G) (hn : 2147483648 ≤ n) : ∃ μ', fX5_undo n μ = some (nI g, μ') ∧ Sim μ' 0 (G 0) ∧ HR μ' g (fun j => G (j + 1)) ∧ ∀ k i, 38 ≤ k → (k ≠ 229 ∨ i ≠ 2) → rd μ' k i = rd μ k i := by
  obtain ⟨o, b1, b2, b3, b4, b6⟩ := hH
  unfold fX5_undo fX1_removeLatest
  rw [b4, if_pos (show (1 : Int32) ≤ nI (g + 1) by rw [li1, le_ok (by omega) (by omega)]; omega), li1, sub_ok (by omega), show g + 1 - 1 = g by omega]
  have x1 : rd (wr μ 229 2 (nI g)) 229 1 = nI o := by rw [rd_wr, if_neg (by omega)]; exact b3
  have x2 : rd (wr μ 229 2 (nI g)) 229 2 = nI g := by rw [rd_wr, if_pos ⟨rfl, rfl⟩]
  have hm4 : (o + g) % 4 < 4 := Nat.mod_lt _ (by omega)
  rw [x1, x2, nI_add, rem4 (by omega), ib_ok hm4 (by omega), if_pos rfl, cl_ok (by omega), br_some]
  have hS : Sim (wr μ 229 2 (nI g)) (76 + 38 * ((o + g) % 4)) (G 0) := by
    have h0 := b6 0 (by omega)
    rw [show (o + (g + 1 - 1 - 0)) % 4 = (o + g) % 4 by omega] at h0
    exact Sim_fr h0 (fun k i _ _ _ => by rw [rd_wr, if_neg (by omega)])
  obtain ⟨μ2, e3, c1⟩ := X_cpH (n := n) (B := 0) (C := 76 + 38 * ((o + g) % 4)) (μ := wr μ 229 2 (nI g)) (by omega) (Sim_bool hS) hn
  rw [e3, bv_some]
  have gX : ∀ k i, 38 ≤ k → (k ≠ 229 ∨ i ≠ 2) → rd μ2 k i = rd μ k i := fun k i k1 k2 => by rw [c1.2.2.1 k i (by omega), rd_wr, if_neg (by omega)]
  have y2 : rd μ2 229 2 = nI g := by rw [c1.2.2.1 _ _ (by omega)]; exact x2
  refine ⟨μ2, by rw [y2], Sim_cp hS c1, ⟨o, by omega, b2, by rw [gX _ _ (by omega) (by omega)]; exact b3, y2, fun j hj => ?_⟩, gX⟩
  have h1 := b6 (j + 1) (by omega)
  rw [show (o + (g + 1 - 1 - (j + 1))) % 4 = (o + (g - 1 - j)) % 4 by omega] at h1
  have hm4' : (o + (g - 1 - j)) % 4 < 4 := Nat.mod_lt _ (by omega)
  exact Sim_fr h1 (fun k i q1 q2 _ => gX _ _ (by omega) (by omega))
theorem X_undo0 {n : Nat} {μ : hb_m} (h : rd μ 229 2 = nI 0) : fX5_undo n μ = some (-5, μ) := by
  unfold fX5_undo fX1_removeLatest
  rw [h, if_neg (by decide), br_none]
theorem X_keep {n : Nat} {μ : hb_m} {σ : Nat → Int32} (hS : Sim μ 0 σ) (hn : 2147483648 ≤ n) : ∃ μ', fX5_keep n μ = some (rd μ 0 10, μ') ∧ Sim μ' 38 σ ∧ rd μ' 228 2 = 1 ∧ ∀ k i, (k < 38 ∨ 76 ≤ k) → (k ≠ 228 ∨ i ≠ 2) → rd μ' k i = rd μ k i := by
  unfold fX5_keep
  obtain ⟨μ1, e1, c1⟩ := X_cpH (n := n) (B := 38) (C := 0) (μ := μ) (by omega) (Sim_bool hS) hn
  have gX : ∀ k i, (k < 38 ∨ 76 ≤ k) → (k ≠ 228 ∨ i ≠ 2) → rd (wr μ1 228 2 1) k i = rd μ k i := fun k i k1 k2 => by rw [rd_wr, if_neg (by omega)]; exact c1.2.2.1 k i (by omega)
  rw [e1, bv_some, gX _ _ (by omega) (by omega)]
  exact ⟨_, rfl, Sim_fr (Sim_cp hS c1) (fun k i _ _ _ => by rw [rd_wr, if_neg (by omega)]), by rw [rd_wr, if_pos ⟨rfl, rfl⟩], gX⟩
theorem Sim_Y {μ : hb_m} {σ : Nat → Int32} (h : Sim μ 0 σ) : rd μ 0 10 = σ 2 := by
  obtain ⟨F, D, Y, hi, hr⟩ := h
  exact hr.1.2.2.2.trans hi.2.1.2.2.symm
theorem X_restore {n h : Nat} {μ : hb_m} {σ τ : Nat → Int32} {G : Nat → Nat → Int32} (hS : Sim μ 0 σ) (hH : HR μ h G) (hs : rd μ 228 2 = 1) (hT : Sim μ 38 τ) (hn : 2147483648 ≤ n) : ∃ μ', fX5_restore n μ = some (τ 2, μ') ∧ Sim μ' 0 τ ∧ rd μ' 229 2 = nI (if h = 4 then 4 else h + 1) := by
  obtain ⟨o, a1, a2, a3, a4, a5⟩ := id hH
  obtain ⟨μ1, e1, -⟩ := X_rem a3 a2 a4 a1 (Sim_bool hS) hn
  obtain ⟨⟨o', b1, b2, b3, b4, b5⟩, c⟩ := HR_push hS hH hn e1
  have hT1 : Sim μ1 38 τ := Sim_fr hT (fun k i q1 q2 _ => c k i (by omega) (by omega))
  obtain ⟨μ2, e3, c1⟩ := X_cpH (n := n) (B := 0) (C := 38) (μ := μ1) (by omega) (Sim_bool hT1) hn
  have hS2 : Sim μ2 0 τ := Sim_cp hT1 c1
  unfold fX5_restore
  rw [hs, if_neg (by decide), e1, bv_some, e3, bv_some, Sim_Y hS2]
  exact ⟨μ2, rfl, hS2, (c1.2.2.1 _ _ (by omega)).trans b4⟩

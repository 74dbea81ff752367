/-! BOTH SIDES: acts (7): correct -/
theorem NR_q {F D Y : Nat} {μ μ' ν ν' : hb_m} (h : NR μ ν F D Y) (h1 : ∀ k i, k < 38 → k ≠ 11 → rd μ' k i = rd μ k i) (h2 : ∀ i, rd ν' 1 i = rd ν 1 i) : NR μ' ν' F D Y := by
  obtain ⟨hi, hr⟩ := h
  refine ⟨Inv_row hi (fun k _ => h2 k), Rep_row (Rep_fr hr hi.1.1 hi.1.2.1 hi.1.2.2 (fun r i hv _ => h1 _ _ (by unfold vH vY at hv; omega) (by omega)) (fun y q i hy hv => h1 _ _ (by unfold vY at hv; omega) (by omega))) hi.1.1 hi.1.2.1 hi.1.2.2 (fun k _ => h2 k)⟩
theorem put_cor {F D Y y d E : Nat} {u v : Int32} {μ ν : hb_m} (h : NR μ ν F D Y) (hy : y < Y) (hE : rd ν 1 (133 + 71 * y) = nI E) (hED : E ≤ D) (hd : d < E) (hu : rg u 0 79992000) : NR (wr (wr μ 0 8 v) (14 + 6 * y + 3) d u) (wr (wr ν 1 (134 + 71 * y + d) u) 1 6 v) F D Y := by
  obtain ⟨hi, hr⟩ := h
  obtain ⟨hbd, ⟨i0, i1, i2⟩, iF, iD, iY⟩ := Inv_get hi
  obtain ⟨hF8, hD20, hY4⟩ := hbd
  obtain ⟨⟨⟨a0, a1, a2, a3⟩, ⟨b0, b1, b2⟩⟩, rF, rD, rY⟩ := Rep_get hr
  have go : ∀ k, k ≠ 134 + 71 * y + d → k ≠ 6 → rd (wr (wr ν 1 (134 + 71 * y + d) u) 1 6 v) 1 k = rd ν 1 k := fun k h0 h6 => by rw [rd_wr, if_neg (by omega), rd_wr, if_neg (by omega)]
  have gX : ∀ k i, (k ≠ 14 + 6 * y + 3 ∨ i ≠ d) → (k ≠ 0 ∨ i ≠ 8) → rd (wr (wr μ 0 8 v) (14 + 6 * y + 3) d u) k i = rd μ k i := fun k i h0 h8 => by rw [rd_wr, if_neg (by omega), rd_wr, if_neg (by omega)]
  have gj : rd (wr (wr ν 1 (134 + 71 * y + d) u) 1 6 v) 1 (134 + 71 * y + d) = u := by rw [rd_wr, if_neg (by omega), rd_wr, if_pos ⟨rfl, rfl⟩]
  have g6 : rd (wr (wr ν 1 (134 + 71 * y + d) u) 1 6 v) 1 6 = v := by rw [rd_wr, if_pos ⟨rfl, rfl⟩]
  have gi : rd (wr (wr μ 0 8 v) (14 + 6 * y + 3) d u) (14 + 6 * y + 3) d = u := by rw [rd_wr, if_pos ⟨rfl, rfl⟩]
  have g8 : rd (wr (wr μ 0 8 v) (14 + 6 * y + 3) d u) 0 8 = v := by rw [rd_wr, if_neg (by omega), rd_wr, if_pos ⟨rfl, rfl⟩]
  generalize wr (wr ν 1 (134 + 71 * y + d) u) 1 6 v = ν' at go gj g6 ⊢
  generalize wr (wr μ 0 8 v) (14 + 6 * y + 3) d u = μ' at gX gi g8 ⊢
  refine ⟨Inv_mk ⟨hF8, hD20, hY4⟩ ⟨by rw [go _ (by omega) (by omega)]; exact i0, by rw [go _ (by omega) (by omega)]; exact i1, by rw [go _ (by omega) (by omega)]; exact i2⟩ (IF_fr iF hF8 (fun k k1 k2 => go k (by omega) (by omega))) (ID_fr iD (Nat.le_refl _) hD20 (fun k k1 k2 => go k (by omega) (by omega))) ⟨fun z hz => ?_, fun z f hz hf => ?_⟩, Rep_mk ⟨⟨?_, ?_, ?_, ?_⟩, ⟨?_, ?_, ?_⟩⟩ (RF_fr rF hF8 (fun k' i' k1 => gX _ _ (by omega) (by omega)) (fun k k1 k2 => go k (by omega) (by omega))) (RD_fr rD hD20 (fun k' i' k1 k2 => gX _ _ (by omega) (by omega)) (fun k k1 k2 => go k (by omega) (by omega))) ⟨fun z hz => ?_, fun k hk => ?_⟩⟩
  · obtain ⟨G, hG, eG, hd'⟩ := iY.1 z hz
    refine ⟨G, hG, ?_, fun e he => ?_⟩
    · rw [go _ (by omega) (by omega)]; exact eG
    · by_cases q : 134 + 71 * z + e = 134 + 71 * y + d
      · rw [q, gj]; exact hu
      · rw [go _ q (by omega)]; exact hd' e he
  · rcases Nat.lt_trichotomy z y with q | q | q
    all_goals (rw [go _ (by omega) (by omega)]; exact iY.2 z f hz hf)
  · rw [gX _ _ (by omega) (by omega)]; exact a0
  · rw [gX _ _ (by omega) (by omega), go _ (by omega) (by omega)]; exact a1
  · rw [g8, g6]
  · rw [gX _ _ (by omega) (by omega)]; exact a3
  · rw [gX _ _ (by omega) (by omega), go _ (by omega) (by omega)]; exact b0
  · rw [gX _ _ (by omega) (by omega), go _ (by omega) (by omega)]; exact b1
  · rw [gX _ _ (by omega) (by omega)]; exact b2
  · obtain ⟨k0, k1, k2, k3, k4, k5, k6, k7⟩ := rY.1 z hz
    refine ⟨?_, ?_, ?_, fun e he hl => ?_, fun f hf => ?_, fun f hf => ?_, fun k hk => ?_, fun k hk => ?_⟩
    · rw [gX _ _ (by omega) (by omega), go _ (by omega) (by omega)]; exact k0
    · rw [gX _ _ (by omega) (by omega), go _ (by omega) (by omega)]; exact k1
    · rw [gX _ _ (by omega) (by omega), go _ (by omega) (by omega)]; exact k2
    · rw [go _ (by omega) (by omega)] at hl
      by_cases q : z = y ∧ e = d
      · obtain ⟨rfl, rfl⟩ := q
        rw [gi, gj]
      · rw [gX _ _ (by omega) (by omega), go _ (by omega) (by omega)]; exact k3 e he hl
    · rcases Nat.lt_trichotomy z y with q | q | q
      all_goals (rw [gX _ _ (by omega) (by omega), go _ (by omega) (by omega)]; exact k4 f hf)
    · rcases Nat.lt_trichotomy z y with q | q | q
      all_goals (rw [gX _ _ (by omega) (by omega), go _ (by omega) (by omega)]; exact k5 f hf)
    · rw [gX _ _ (by omega) (by omega), go _ (by omega) (by omega)]; exact k6 k hk
    · rw [gX _ _ (by omega) (by omega), go _ (by omega) (by omega)]; exact k7 k hk
  · rw [gX _ _ (by omega) (by omega)]; exact rY.2 k hk
theorem put_bil {F D Y y : Nat} {μ ν μ' ν' : hb_m} (h : NR μ ν F D Y) (hy : y < Y) (gX : ∀ k i, k ≠ 14 + 6 * y + 4 → k ≠ 14 + 6 * y + 5 → rd μ' k i = rd μ k i) (go : ∀ k, (k < 170 + 71 * y ∨ 202 + 71 * y ≤ k) → rd ν' 1 k = rd ν 1 k) (hb : ∀ k, k < 16 → rd μ' (14 + 6 * y + 4) k = if k < 2 * F then rd ν' 1 (170 + 71 * y + k) else 0) (ha : ∀ k, k < 2 * F → rd μ' (14 + 6 * y + 5) k = rd ν' 1 (186 + 71 * y + k)) : NR μ' ν' F D Y := by
  obtain ⟨hi, hr⟩ := h
  obtain ⟨hbd, ⟨i0, i1, i2⟩, iF, iD, iY⟩ := Inv_get hi
  obtain ⟨hF8, hD20, hY4⟩ := hbd
  obtain ⟨rS, rF, rD, rY⟩ := Rep_get hr
  refine ⟨Inv_mk ⟨hF8, hD20, hY4⟩ ⟨by rw [go _ (by omega)]; exact i0, by rw [go _ (by omega)]; exact i1, by rw [go _ (by omega)]; exact i2⟩ (IF_fr iF hF8 (fun k k1 k2 => go k (by omega))) (ID_fr iD (Nat.le_refl _) hD20 (fun k k1 k2 => go k (by omega))) ⟨fun z hz => ?_, fun z f hz hf => ?_⟩, Rep_mk (RS_fr rS (fun k i hk => gX _ _ (by omega) (by omega)) (fun k hk => go _ (by omega))) (RF_fr rF hF8 (fun k' i' k1 => gX _ _ (by omega) (by omega)) (fun k k1 k2 => go k (by omega))) (RD_fr rD hD20 (fun k' i' k1 k2 => gX _ _ (by omega) (by omega)) (fun k k1 k2 => go k (by omega))) ⟨fun z hz => ?_, fun k hk => ?_⟩⟩
  · obtain ⟨G, hG, eG, hd'⟩ := iY.1 z hz
    refine ⟨G, hG, ?_, fun e he => ?_⟩
    · rw [go _ (by omega)]; exact eG
    · rw [go _ (by omega)]; exact hd' e he
  · rcases Nat.lt_trichotomy z y with q | q | q
    all_goals (rw [go _ (by omega)]; exact iY.2 z f hz hf)
  · obtain ⟨k0, k1, k2, k3, k4, k5, k6, k7⟩ := rY.1 z hz
    refine ⟨?_, ?_, ?_, fun e he hl => ?_, fun f hf => ?_, fun f hf => ?_, fun k hk => ?_, fun k hk => ?_⟩
    · rw [gX _ _ (by omega) (by omega), go _ (by omega)]; exact k0
    · rw [gX _ _ (by omega) (by omega), go _ (by omega)]; exact k1
    · rw [gX _ _ (by omega) (by omega), go _ (by omega)]; exact k2
    · rw [go _ (by omega)] at hl
      rw [gX _ _ (by omega) (by omega), go _ (by omega)]; exact k3 e he hl
    · rcases Nat.lt_trichotomy z y with q | q | q
      all_goals (rw [gX _ _ (by omega) (by omega), go _ (by omega)]; exact k4 f hf)
    · rcases Nat.lt_trichotomy z y with q | q | q
      all_goals (rw [gX _ _ (by omega) (by omega), go _ (by omega)]; exact k5 f hf)
    · by_cases q : z = y
      · subst q
        exact hb k hk
      · rw [gX _ _ (by omega) (by omega), go _ (by omega)]; exact k6 k hk
    · by_cases q : z = y
      · subst q
        exact ha k hk
      · rw [gX _ _ (by omega) (by omega), go _ (by omega)]; exact k7 k hk
  · rw [gX _ _ (by omega) (by omega)]; exact rY.2 k hk
theorem X_chA {n C : Nat} {μ : hb_m} (hC : C + 6 ≤ 228) (hn : 2147483648 ≤ n) : ∃ μ', fX4_chargeAnew n C 239 μ = some (sI (fun k => if rd μ 239 k - rd μ (C + 4) k = 0 then 0 else 1) 16, μ') ∧ (∀ k, k < 16 → rd μ' (C + 4) k = rd μ 239 k ∧ rd μ' (C + 5) k = rd μ (C + 5) k + (rd μ 239 k - rd μ (C + 4) k)) ∧ (∀ c j, c ≠ C + 4 → c ≠ C + 5 → rd μ' c j = rd μ c j) := by
  unfold fX4_chargeAnew
  obtain ⟨⟨a, s'⟩, ⟨h1, h2, h3, h4⟩, e⟩ := lo (S := Int32 × hb_m) (fun g i t => lX4_chargeAnew_4 n C 239 (fun x3_4 x2_4 m4 => some (x2_4, m4)) g (nI i) t.1 t.2) 16 (fun t => some (t.1, t.2)) (fun i t => t.1 = sI (fun k => if rd μ 239 k - rd μ (C + 4) k = 0 then 0 else 1) i ∧ (∀ k, k < i → rd t.2 (C + 4) k = rd μ 239 k ∧ rd t.2 (C + 5) k = rd μ (C + 5) k + (rd μ 239 k - rd μ (C + 4) k)) ∧ (∀ c j, c ≠ C + 4 → c ≠ C + 5 → rd t.2 c j = rd μ c j) ∧ (∀ c j, i ≤ j → rd t.2 c j = rd μ c j))
    (fun g t hI => by
      rw [lX4_chargeAnew_4]
      rw [if_pos (by rw [li16, le_ok (by omega) (by omega)]; omega)])
    (fun g i t hi hI => by
      obtain ⟨a, t⟩ := t
      obtain ⟨h1, h2, h3, h4⟩ := hI
      dsimp only at h1 h2 h3 h4 ⊢
      refine ⟨(sI (fun k => if rd μ 239 k - rd μ (C + 4) k = 0 then 0 else 1) (i + 1), wr (wr t (C + 5) i (rd μ (C + 5) i + (rd μ 239 i - rd μ (C + 4) i))) (C + 4) i (rd μ 239 i)), ⟨rfl, fun k hk => ?_, fun c j c4 c5 => ?_, fun c j hj => ?_⟩, ?_⟩
      · dsimp only
        by_cases q : k = i
        · subst q
          rw [rd_wr, if_pos ⟨rfl, rfl⟩, rd_wr, if_neg (by omega), rd_wr, if_pos ⟨rfl, rfl⟩]
          exact ⟨rfl, rfl⟩
        · rw [rd_wr, if_neg (by omega), rd_wr, if_neg (by omega), rd_wr, if_neg (by omega), rd_wr, if_neg (by omega)]
          exact h2 k (by omega)
      · dsimp only
        rw [rd_wr, if_neg (by omega), rd_wr, if_neg (by omega)]
        exact h3 c j c4 c5
      · dsimp only
        rw [rd_wr, if_neg (by omega), rd_wr, if_neg (by omega)]
        exact h4 c j (by omega)
      · rw [lX4_chargeAnew_4]
        have y5 : rd (wr t (C + 5) i (rd μ (C + 5) i + (rd μ 239 i - rd μ (C + 4) i))) 239 i = rd μ 239 i := by rw [rd_wr, if_neg (by omega)]; exact h3 _ _ (by omega) (by omega)
        rw [if_neg (by rw [li16, le_ok (by omega) (by omega)]; omega), hx_n239, ib_ok hi (by omega), if_pos rfl, if_pos rfl, if_pos rfl, if_pos rfl, if_pos rfl, if_pos rfl, if_pos rfl, if_pos rfl, if_pos rfl, if_pos rfl, cl_ok (by omega), h4 239 i (Nat.le_refl _), h4 (C + 4) i (Nat.le_refl _), h4 (C + 5) i (Nat.le_refl _), y5, h1, show nI i + 1 = nI (i + 1) from nI_1 i, sI]
        by_cases z : rd μ 239 i - rd μ (C + 4) i = 0
        · rw [if_pos z, if_pos z, Int32.add_zero]
        · rw [if_neg z, if_neg z])
    n 0 (0, μ) (by omega) (by omega) ⟨rfl, fun k hk => by omega, fun _ _ _ _ => rfl, fun _ _ _ => rfl⟩
  dsimp only at h1 h2 h3 h4 e
  rw [h1] at e
  exact ⟨s', e, h2, h3⟩

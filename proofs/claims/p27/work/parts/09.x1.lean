/-! THE CLASS, PURE: small methods, copies -/
theorem X_hasFlat {n B : Nat} {p : Int32} {μ : hb_m} : fX2_hasFlat n B p μ = some (if 0 ≤ p ∧ p < rd μ B 0 then 1 else 0, μ) := by
  unfold fX2_hasFlat
  by_cases h : p < 0
  · rw [if_pos h, if_neg (fun q => absurd q.1 (Int32.not_le.mpr h))]
  · by_cases h2 : rd μ B 0 ≤ p
    · rw [if_neg h, if_pos h2, if_neg (fun q => absurd q.2 (Int32.not_lt.mpr h2))]
    · rw [if_neg h, if_neg h2, if_pos ⟨Int32.not_lt.mp h, Int32.not_le.mp h2⟩]
theorem X_hasDev {n Y : Nat} {p : Int32} {μ : hb_m} : fX4_hasDevice n Y p μ = some (if 0 ≤ p ∧ p < rd μ Y 2 then 1 else 0, μ) := by
  unfold fX4_hasDevice
  by_cases h : p < 0
  · rw [if_pos h, if_neg (fun q => absurd q.1 (Int32.not_le.mpr h))]
  · by_cases h2 : rd μ Y 2 ≤ p
    · rw [if_neg h, if_pos h2, if_neg (fun q => absurd q.2 (Int32.not_lt.mpr h2))]
    · rw [if_neg h, if_neg h2, if_pos ⟨Int32.not_lt.mp h, Int32.not_le.mp h2⟩]
theorem X_hasMove {n Y f : Nat} {μ : hb_m} (hf : f < 8) : fX4_hasMove n Y (nI f) μ = some (if rd μ (Y + 1) f = -5 then 0 else 1, μ) := by
  unfold fX4_hasMove
  rw [ib_ok hf (by omega), if_pos rfl, cl_ok (by omega)]
  split <;> rfl
theorem X_wA {n m : Nat} {μ : hb_m} (h : m ≤ 12) (hn : 2147483648 ≤ n) : fX5_weightsAhead n (nI m) μ = some (p_wA m, μ) := by
  unfold fX5_weightsAhead
  obtain ⟨⟨a, μ'⟩, ⟨h1, h2⟩, e⟩ := lo (S := Int32 × hb_m) (fun f i s => lX5_weightsAhead_4 n (nI m) (fun x2_4 x1_4 m4 => some (x1_4, m4)) f (nI i) s.1 s.2) m (fun s => some (s.1, s.2)) (fun i s => s.1 = sI tbX2f i ∧ s.2 = μ)
    (fun f s hI => by
      rw [lX5_weightsAhead_4]
      rw [if_pos (by rw [le_ok (by omega) (by omega)]; omega)])
    (fun f i s hi hI => by
      obtain ⟨h1, h2⟩ := hI
      refine ⟨(s.1 + tbX2f i, s.2), ⟨by rw [h1]; rfl, h2⟩, ?_⟩
      rw [lX5_weightsAhead_4]
      rw [if_neg (by rw [le_ok (by omega) (by omega)]; omega), show Int32.ofNat 12 = nI 12 from rfl, if_neg (by rw [le_ok (by omega) (by omega)]; omega), ib_ok (by omega) (by omega), if_pos rfl, cl_ok (by omega), li1, nI_add])
    n 0 (0, μ) (by omega) (by omega) ⟨rfl, rfl⟩
  refine Eq.trans e ?_
  rw [h1, h2]
  rfl
theorem X_sumOf {n a s : Nat} {μ : hb_m} (hs : s ≤ hx_n a) (ha : hx_n a ≤ 20) (hn : 2147483648 ≤ n) : fX5_sumOf n a (nI s) μ = some (sI (rd μ a) s, μ) := by
  unfold fX5_sumOf
  obtain ⟨⟨z, μ'⟩, ⟨h1, h2⟩, e⟩ := lo (S := Int32 × hb_m) (fun f i s0 => lX5_sumOf_4 n a (nI s) (fun x3_4 x2_4 m4 => some (x2_4, m4)) f (nI i) s0.1 s0.2) s (fun s0 => some (s0.1, s0.2)) (fun i s0 => s0.1 = sI (rd μ a) i ∧ s0.2 = μ)
    (fun f s0 hI => by
      rw [lX5_sumOf_4]
      rw [if_pos (by rw [le_ok (by omega) (by omega)]; omega)])
    (fun f i s0 hi hI => by
      obtain ⟨z, μ'⟩ := s0
      obtain ⟨h1, rfl⟩ := hI
      dsimp only at h1 ⊢
      subst h1
      refine ⟨(sI (rd μ' a) (i + 1), μ'), ⟨rfl, rfl⟩, ?_⟩
      rw [lX5_sumOf_4]
      rw [if_neg (by rw [le_ok (by omega) (by omega)]; omega), show Int32.ofNat (hx_n a) = nI (hx_n a) from rfl, if_neg (by rw [le_ok (by omega) (by omega)]; omega), ib_ok (by omega) (by omega), if_pos rfl, cl_ok (by omega), li1, nI_add]
      rfl)
    n 0 (0, μ) (by omega) (by omega) ⟨rfl, rfl⟩
  refine Eq.trans e ?_
  rw [h1, h2]
theorem X_fill {n a L : Nat} {v : Int32} {μ : hb_m} (hL : hx_n a = L) (h20 : L ≤ 20) (hn : 2147483648 ≤ n) : ∃ μ', fJ7_fill_53178 n a v μ = some μ' ∧ (∀ k i, rd μ' k i = if k = a ∧ i < L then v else rd μ k i) ∧ (∀ k i, rL μ' k i = rL μ k i) := by
  unfold fJ7_fill_53178
  rw [hL, show Int32.ofNat L = nI L from rfl]
  obtain ⟨μ', ⟨h2, h3⟩, e⟩ := lo (S := hb_m) (fun f i s => lJ7_fill_53178_5 n a v (nI L) (fun x2_5 m5 => some m5) f (nI i) s) L (fun s => some s) (fun i s => (∀ k j, rd s k j = if k = a ∧ j < i then v else rd μ k j) ∧ (∀ k j, rL s k j = rL μ k j))
    (fun f s hI => by
      rw [lJ7_fill_53178_5]
      rw [if_pos (by rw [le_ok (by omega) (by omega)]; omega)])
    (fun f i s hi hI => by
      obtain ⟨h2, h3⟩ := hI
      refine ⟨wr s a i v, ⟨fun k j => ?_, fun k j => ?_⟩, ?_⟩
      · rw [rd_wr, h2]
        by_cases hk : k = a ∧ j = i
        · rw [if_pos hk, if_pos ⟨hk.1, by omega⟩]
        · rw [if_neg hk]
          by_cases hz : k = a ∧ j < i
          · rw [if_pos hz, if_pos ⟨hz.1, by omega⟩]
          · rw [if_neg hz, if_neg (fun z => hz ⟨z.1, by
              have : j ≠ i := fun e => hk ⟨z.1, e⟩
              omega⟩)]
      · rw [rL_wr]; exact h3 k j
      · rw [lJ7_fill_53178_5]
        rw [if_neg (by rw [le_ok (by omega) (by omega)]; omega), hL, ib_ok (by omega) (by omega), if_pos rfl, cl_ok (by omega), li1, nI_add])
    n 0 μ (by omega) (by omega) ⟨fun k j => by rw [if_neg (by omega)], fun _ _ => rfl⟩
  exact ⟨μ', e, h2, h3⟩
theorem cb_int {μ : hb_m} {a n n0 n1 : Nat} (h0 : n ≤ n0) (h1 : n ≤ n1) : cb .int μ a n n0 n1 = true := by
  simp only [cb, Bool.and_eq_true, decide_eq_true_eq, List.all_eq_true, List.mem_range]
  exact ⟨⟨h0, h1⟩, fun _ _ => rfl⟩
theorem cb_bool {μ : hb_m} {a n : Nat} (h : ∀ i, i < n → rd μ a i = 0 ∨ rd μ a i = 1) : cb .boolean μ a n n n = true := by
  simp only [cb, Bool.and_eq_true, decide_eq_true_eq, List.all_eq_true, List.mem_range]
  refine ⟨⟨Nat.le_refl _, Nat.le_refl _⟩, fun i hi => ?_⟩
  rcases h i hi with e | e <;> rw [e] <;> rfl

/-! THE CLASS, PURE: copies of years and houses -/
def vY (q i : Nat) : Prop := (q = 0 ∧ i < 3) ∨ ((q = 1 ∨ q = 2) ∧ i < 8) ∨ (q = 3 ∧ i < 20) ∨ ((q = 4 ∨ q = 5) ∧ i < 16)
def vH (r i : Nat) : Prop := (r = 0 ∧ (i = 0 ∨ i = 7 ∨ i = 8 ∨ i = 10)) ∨ (r = 1 ∧ i < 8) ∨ (2 ≤ r ∧ r ≤ 6 ∧ i < 20) ∨ (8 ≤ r ∧ r < 14 ∧ vY (r - 8) i)
theorem X_cpY {n Y Z : Nat} {μ : hb_m} (h : Y + 6 ≤ Z ∨ Z + 6 ≤ Y) : ∃ μ', fX4_copyFrom n Y Z μ = some μ' ∧ (∀ k i, (k < Y ∨ Y + 6 ≤ k) → rd μ' k i = rd μ k i) ∧ (∀ q i, vY q i → rd μ' (Y + q) i = rd μ (Z + q) i) ∧ (∀ k i, rL μ' k i = rL μ k i) := by
  unfold fX4_copyFrom
  rw [cb_int (by omega) (by omega), if_pos rfl, cb_int (by omega) (by omega), if_pos rfl, cb_int (by omega) (by omega), if_pos rfl, cb_int (by omega) (by omega), if_pos rfl, cb_int (by omega) (by omega), if_pos rfl]
  refine ⟨_, rfl, fun k i hk => ?_, fun q i hq => ?_, fun k i => by simp only [rL_cpA, rL_wr]⟩
  · rw [rd_cpA, if_neg (by omega), rd_cpA, if_neg (by omega), rd_cpA, if_neg (by omega), rd_cpA, if_neg (by omega), rd_cpA, if_neg (by omega), rd_wr, if_neg (by omega), rd_wr, if_neg (by omega), rd_wr, if_neg (by omega)]
  · unfold vY at hq
    rcases hq with ⟨rfl, hi⟩ | ⟨rfl | rfl, hi⟩ | ⟨rfl, hi⟩ | ⟨rfl | rfl, hi⟩
    · show rd _ Y i = rd μ Z i
      rw [rd_cpA, if_neg (by omega), rd_cpA, if_neg (by omega), rd_cpA, if_neg (by omega), rd_cpA, if_neg (by omega), rd_cpA, if_neg (by omega)]
      rcases (show i = 0 ∨ i = 1 ∨ i = 2 by omega) with rfl | rfl | rfl
      · rw [rd_wr, if_neg (by omega), rd_wr, if_neg (by omega), rd_wr, if_pos ⟨rfl, rfl⟩]
      · rw [rd_wr, if_neg (by omega), rd_wr, if_pos ⟨rfl, rfl⟩, rd_wr, if_neg (by omega)]
      · rw [rd_wr, if_pos ⟨rfl, rfl⟩, rd_wr, if_neg (by omega), rd_wr, if_neg (by omega)]
    · rw [rd_cpA, if_neg (by omega), rd_cpA, if_neg (by omega), rd_cpA, if_neg (by omega), rd_cpA, if_neg (by omega), rd_cpA, if_pos ⟨rfl, hi⟩, rd_wr, if_neg (by omega), rd_wr, if_neg (by omega), rd_wr, if_neg (by omega)]
    · rw [rd_cpA, if_neg (by omega), rd_cpA, if_neg (by omega), rd_cpA, if_neg (by omega), rd_cpA, if_pos ⟨rfl, hi⟩, rd_cpA, if_neg (by omega), rd_wr, if_neg (by omega), rd_wr, if_neg (by omega), rd_wr, if_neg (by omega)]
    · rw [rd_cpA, if_neg (by omega), rd_cpA, if_neg (by omega), rd_cpA, if_pos ⟨rfl, hi⟩, rd_cpA, if_neg (by omega), rd_cpA, if_neg (by omega), rd_wr, if_neg (by omega), rd_wr, if_neg (by omega), rd_wr, if_neg (by omega)]
    · rw [rd_cpA, if_neg (by omega), rd_cpA, if_pos ⟨rfl, hi⟩, rd_cpA, if_neg (by omega), rd_cpA, if_neg (by omega), rd_cpA, if_neg (by omega), rd_wr, if_neg (by omega), rd_wr, if_neg (by omega), rd_wr, if_neg (by omega)]
    · rw [rd_cpA, if_pos ⟨rfl, hi⟩, rd_cpA, if_neg (by omega), rd_cpA, if_neg (by omega), rd_cpA, if_neg (by omega), rd_cpA, if_neg (by omega), rd_wr, if_neg (by omega), rd_wr, if_neg (by omega), rd_wr, if_neg (by omega)]
/-- the house C is copied to the house B -/
def cpH (B C : Nat) (μ μ' : hb_m) : Prop := (∀ r i, vH r i → rd μ' (B + r) i = rd μ (C + r) i) ∧ (∀ y q i, y < 4 → vY q i → rd μ' (B + 14 + 6 * y + q) i = rd μ (C + 14 + 6 * y + q) i) ∧ (∀ k i, (k < B ∨ B + 38 ≤ k) → rd μ' k i = rd μ k i) ∧ ∀ k i, rL μ' k i = rL μ k i
theorem X_cpYs {n B C : Nat} {μ : hb_m} (h : B + 38 ≤ C ∨ C + 38 ≤ B) (hn : 2147483648 ≤ n) : ∃ μ', lX2_copyFrom_146 n B C (fun x2_146 m146 => some m146) n 0 μ = some μ' ∧ (∀ k i, (k < B + 14 ∨ B + 38 ≤ k) → rd μ' k i = rd μ k i) ∧ (∀ y q i, y < 4 → vY q i → rd μ' (B + 14 + 6 * y + q) i = rd μ (C + 14 + 6 * y + q) i) ∧ (∀ k i, rL μ' k i = rL μ k i) := by
  have hq6 : ∀ q i, vY q i → q < 6 := fun q i hq => by unfold vY at hq; omega
  obtain ⟨μ', ⟨h2, h3, h4⟩, e⟩ := lo (S := hb_m) (fun f i s => lX2_copyFrom_146 n B C (fun x2_146 m146 => some m146) f (nI i) s) 4 (fun s => some s) (fun i s => (∀ k j, (k < B + 14 ∨ B + 38 ≤ k) → rd s k j = rd μ k j) ∧ (∀ y q j, y < i → vY q j → rd s (B + 14 + 6 * y + q) j = rd μ (C + 14 + 6 * y + q) j) ∧ (∀ k i, rL s k i = rL μ k i))
    (fun f s hI => by
      rw [lX2_copyFrom_146]
      rw [if_pos (by rw [li4, le_ok (by omega) (by omega)]; omega)])
    (fun f i s hi hI => by
      obtain ⟨h2, h3, h4⟩ := hI
      obtain ⟨μ1, e1, g1, g2, g3⟩ := X_cpY (n := n) (Y := B + 14 + 6 * i) (Z := C + 14 + 6 * i) (μ := s) (by omega)
      refine ⟨μ1, ⟨fun k j hk => ?_, fun y q j hy hq => ?_, fun k j => ?_⟩, ?_⟩
      · rw [g1 k j (by omega)]; exact h2 k j hk
      · have := hq6 q j hq
        by_cases hyi : y = i
        · subst hyi
          rw [g2 q j hq]
          by_cases hcb : C < B
          · exact h2 _ _ (by omega)
          · exact h2 _ _ (by omega)
        · rw [g1 _ _ (by omega)]; exact h3 y q j (by omega) hq
      · rw [g3]; exact h4 k j
      · rw [lX2_copyFrom_146]
        rw [if_neg (by rw [li4, le_ok (by omega) (by omega)]; omega), ib_ok (by omega) (by omega), if_pos rfl, if_pos rfl, cl_ok (by omega), e1, bv_some, li1, nI_add])
    n 0 μ (by omega) (by omega) ⟨fun _ _ _ => rfl, fun y q j hy => by omega, fun _ _ => rfl⟩
  exact ⟨μ', e, h2, h3, h4⟩
/-- the loop that copies the flags -/
theorem X_cpF {n B C : Nat} {μ : hb_m} (k : Int32 → hb_m → Option hb_m) (h : B + 38 ≤ C ∨ C + 38 ≤ B) (hb : ∀ i, i < 20 → rd μ (C + 6) i = 0 ∨ rd μ (C + 6) i = 1) (hn : 2147483648 ≤ n) : ∃ μ', (∀ q i, q ≠ B + 6 → rd μ' q i = rd μ q i) ∧ (∀ i, i < 20 → rd μ' (B + 6) i = rd μ (C + 6) i) ∧ (∀ q i, rL μ' q i = rL μ q i) ∧ lX2_copyFrom_85 n B C k n 0 μ = k (nI 20) μ' := by
  obtain ⟨μ', ⟨h2, h3, h4⟩, e⟩ := lo (S := hb_m) (fun f i s => lX2_copyFrom_85 n B C k f (nI i) s) 20 (fun s => k (nI 20) s) (fun i s => (∀ q j, q ≠ B + 6 → rd s q j = rd μ q j) ∧ (∀ j, j < i → rd s (B + 6) j = rd μ (C + 6) j) ∧ (∀ q j, rL s q j = rL μ q j))
    (fun f s hI => by
      rw [lX2_copyFrom_85]
      rw [if_pos (by rw [li20, le_ok (by omega) (by omega)]; omega)])
    (fun f i s hi hI => by
      obtain ⟨h2, h3, h4⟩ := hI
      have en : vp_nar .boolean (rd s (C + 6) i) = rd μ (C + 6) i := by
        rw [h2 _ _ (by omega)]
        rcases hb i hi with z | z <;> rw [z] <;> rfl
      refine ⟨wr s (B + 6) i (rd μ (C + 6) i), ⟨fun q j hq => ?_, fun j hj => ?_, fun q j => ?_⟩, ?_⟩
      · rw [rd_wr, if_neg (by omega)]; exact h2 q j hq
      · by_cases e : j = i
        · subst e
          rw [rd_wr, if_pos ⟨rfl, rfl⟩]
        · rw [rd_wr, if_neg (by omega)]; exact h3 j (by omega)
      · rw [rL_wr]; exact h4 q j
      · rw [lX2_copyFrom_85]
        rw [if_neg (by rw [li20, le_ok (by omega) (by omega)]; omega), ib_ok (by omega) (by omega), if_pos rfl, if_pos rfl, cl_ok (by omega), en, li1, nI_add])
    n 0 μ (by omega) (by omega) ⟨fun _ _ _ => rfl, fun j hj => by omega, fun _ _ => rfl⟩
  exact ⟨μ', h2, h3, h4, e⟩
theorem X_cpH {n B C : Nat} {μ : hb_m} (h : B + 38 ≤ C ∨ C + 38 ≤ B) (hb : ∀ i, i < 20 → rd μ (C + 6) i = 0 ∨ rd μ (C + 6) i = 1) (hn : 2147483648 ≤ n) : ∃ μ', fX2_copyFrom n B C μ = some μ' ∧ cpH B C μ μ' := by
  unfold fX2_copyFrom
  rw [cb_int (by omega) (by omega), if_pos rfl, cb_int (by omega) (by omega), if_pos rfl, cb_int (by omega) (by omega), if_pos rfl, cb_int (by omega) (by omega), if_pos rfl, cb_int (by omega) (by omega), if_pos rfl]
  obtain ⟨m6, n6, b6, p6, e6⟩ := X_cpF (n := n) (B := B) (C := C) (μ := cpA (cpA (cpA (cpA (cpA (wr μ B 0 (rd μ C 0)) (C + 1) (B + 1) 8) (C + 2) (B + 2) 20) (C + 3) (B + 3) 20) (C + 4) (B + 4) 20) (C + 5) (B + 5) 20) (fun x2_85 m85 =>
    bv (fX4_copyFrom n (B + 8) (C + 8) (wr (wr m85 B 7 (rd m85 C 7)) B 8 (rd (wr m85 B 7 (rd m85 C 7)) C 8))) (fun m133 =>
    lX2_copyFrom_146 n B C (fun x2_146 m146 =>
    some m146) n (0 : Int32) (wr m133 B 10 (rd m133 C 10)))) h (fun i hi => by
    rw [rd_cpA, if_neg (by omega), rd_cpA, if_neg (by omega), rd_cpA, if_neg (by omega), rd_cpA, if_neg (by omega), rd_cpA, if_neg (by omega), rd_wr, if_neg (by omega)]
    exact hb i hi) hn
  rw [e6]
  have f6 : ∀ k i, (k < B ∨ B + 7 ≤ k) → rd m6 k i = rd μ k i := fun k i hk => by
    rw [n6 _ _ (by omega), rd_cpA, if_neg (by omega), rd_cpA, if_neg (by omega), rd_cpA, if_neg (by omega), rd_cpA, if_neg (by omega), rd_cpA, if_neg (by omega), rd_wr, if_neg (by omega)]
  have a6 : ∀ r i, ((r = 1 ∧ i < 8) ∨ (2 ≤ r ∧ r ≤ 6 ∧ i < 20)) → rd m6 (B + r) i = rd μ (C + r) i := by
    intro r i hr
    rcases (show (r = 1 ∧ i < 8) ∨ (r = 2 ∧ i < 20) ∨ (r = 3 ∧ i < 20) ∨ (r = 4 ∧ i < 20) ∨ (r = 5 ∧ i < 20) ∨ (r = 6 ∧ i < 20) by omega) with ⟨rfl, hi⟩ | ⟨rfl, hi⟩ | ⟨rfl, hi⟩ | ⟨rfl, hi⟩ | ⟨rfl, hi⟩ | ⟨rfl, hi⟩
    · rw [n6 _ _ (by omega), rd_cpA, if_neg (by omega), rd_cpA, if_neg (by omega), rd_cpA, if_neg (by omega), rd_cpA, if_neg (by omega), rd_cpA, if_pos ⟨rfl, hi⟩, rd_wr, if_neg (by omega)]
    · rw [n6 _ _ (by omega), rd_cpA, if_neg (by omega), rd_cpA, if_neg (by omega), rd_cpA, if_neg (by omega), rd_cpA, if_pos ⟨rfl, hi⟩, rd_cpA, if_neg (by omega), rd_wr, if_neg (by omega)]
    · rw [n6 _ _ (by omega), rd_cpA, if_neg (by omega), rd_cpA, if_neg (by omega), rd_cpA, if_pos ⟨rfl, hi⟩, rd_cpA, if_neg (by omega), rd_cpA, if_neg (by omega), rd_wr, if_neg (by omega)]
    · rw [n6 _ _ (by omega), rd_cpA, if_neg (by omega), rd_cpA, if_pos ⟨rfl, hi⟩, rd_cpA, if_neg (by omega), rd_cpA, if_neg (by omega), rd_cpA, if_neg (by omega), rd_wr, if_neg (by omega)]
    · rw [n6 _ _ (by omega), rd_cpA, if_pos ⟨rfl, hi⟩, rd_cpA, if_neg (by omega), rd_cpA, if_neg (by omega), rd_cpA, if_neg (by omega), rd_cpA, if_neg (by omega), rd_wr, if_neg (by omega)]
    · rw [b6 i hi, rd_cpA, if_neg (by omega), rd_cpA, if_neg (by omega), rd_cpA, if_neg (by omega), rd_cpA, if_neg (by omega), rd_cpA, if_neg (by omega), rd_wr, if_neg (by omega)]
  have a0 : rd m6 B 0 = rd μ C 0 := by
    rw [n6 _ _ (by omega), rd_cpA, if_neg (by omega), rd_cpA, if_neg (by omega), rd_cpA, if_neg (by omega), rd_cpA, if_neg (by omega), rd_cpA, if_neg (by omega), rd_wr, if_pos ⟨rfl, rfl⟩]
  have l6 : ∀ k i, rL m6 k i = rL μ k i := fun k i => by rw [p6]; simp only [rL_cpA, rL_wr]
  show ∃ μ', bv (fX4_copyFrom n (B + 8) (C + 8) (wr (wr m6 B 7 (rd m6 C 7)) B 8 (rd (wr m6 B 7 (rd m6 C 7)) C 8))) (fun m133 =>
    lX2_copyFrom_146 n B C (fun x2_146 m146 => some m146) n (0 : Int32) (wr m133 B 10 (rd m133 C 10))) = some μ' ∧ cpH B C μ μ'
  rw [rd_wr, if_neg (by omega), f6 C 7 (by omega), f6 C 8 (by omega)]
  obtain ⟨m7, e7, f7, a7, l7⟩ := X_cpY (n := n) (Y := B + 8) (Z := C + 8) (μ := wr (wr m6 B 7 (rd μ C 7)) B 8 (rd μ C 8)) (by omega)
  rw [e7, bv_some]
  have c10 : rd m7 C 10 = rd μ C 10 := by rw [f7 _ _ (by omega), rd_wr, if_neg (by omega), rd_wr, if_neg (by omega), f6 _ _ (by omega)]
  rw [c10]
  obtain ⟨m8, e8, f8, a8, l8⟩ := X_cpYs (n := n) (B := B) (C := C) (μ := wr m7 B 10 (rd μ C 10)) h hn
  refine ⟨m8, e8, fun r i hr => ?_, fun y q i hy hq => ?_, fun k i hk => ?_, fun k i => ?_⟩
  · unfold vH at hr
    rcases hr with ⟨rfl, hi⟩ | hr | hr | ⟨h8, h14, hq⟩
    · rw [Nat.add_zero, Nat.add_zero, f8 _ _ (by omega)]
      rcases hi with rfl | rfl | rfl | rfl
      · rw [rd_wr, if_neg (by omega), f7 _ _ (by omega), rd_wr, if_neg (by omega), rd_wr, if_neg (by omega), a0]
      · rw [rd_wr, if_neg (by omega), f7 _ _ (by omega), rd_wr, if_neg (by omega), rd_wr, if_pos ⟨rfl, rfl⟩]
      · rw [rd_wr, if_neg (by omega), f7 _ _ (by omega), rd_wr, if_pos ⟨rfl, rfl⟩]
      · rw [rd_wr, if_pos ⟨rfl, rfl⟩]
    · rw [f8 _ _ (by omega), rd_wr, if_neg (by omega), f7 _ _ (by omega), rd_wr, if_neg (by omega), rd_wr, if_neg (by omega), a6 r i (Or.inl hr)]
    · rw [f8 _ _ (by omega), rd_wr, if_neg (by omega), f7 _ _ (by omega), rd_wr, if_neg (by omega), rd_wr, if_neg (by omega), a6 r i (Or.inr hr)]
    · rw [f8 _ _ (by omega), rd_wr, if_neg (by omega), show B + r = B + 8 + (r - 8) by omega, a7 _ _ hq, rd_wr, if_neg (by omega), rd_wr, if_neg (by omega), f6 _ _ (by omega), show C + 8 + (r - 8) = C + r by omega]
  · have hq6 : q < 6 := by unfold vY at hq; omega
    rw [a8 y q i hy hq, rd_wr, if_neg (by omega), f7 _ _ (by omega), rd_wr, if_neg (by omega), rd_wr, if_neg (by omega), f6 _ _ (by omega)]
  · rw [f8 _ _ (by omega), rd_wr, if_neg (by omega), f7 _ _ (by omega), rd_wr, if_neg (by omega), rd_wr, if_neg (by omega), f6 _ _ (by omega)]
  · rw [l8, rL_wr, l7, rL_wr, rL_wr, l6]

/-! BOTH SIDES: the text (1): numbers -/
abbrev dg (c : Nat → Int32) (t a : Nat) : Prop := a < t ∧ 48 ≤ c a ∧ c a ≤ 57
def dv (c : Nat → Int32) (a : Nat) : Nat := (c a).toNatClampNeg - 48
abbrev gof (c : Nat → Int32) (t m v a : Nat) : Prop := dg c t a ∧ 0 < v ∧ 10 * v + dv c a ≤ m
def nx (c : Nat → Int32) (t m : Nat) : Nat → Nat → Nat → Nat × Nat
  | 0, v, a => (v, a)
  | b + 1, v, a => if gof c t m v a then nx c t m b (10 * v + dv c a) (a + 1) else (v, a)
theorem dg_dv {c : Nat → Int32} {t a : Nat} (h : dg c t a) : c a = nI (48 + dv c a) ∧ dv c a ≤ 9 := by
  obtain ⟨-, h1, h2⟩ := h
  obtain ⟨e, g1, g2⟩ := rg_of (a := 48) (b := 57) h1 h2 (by omega) (by omega)
  unfold dv
  refine ⟨?_, by omega⟩
  rw [show 48 + ((c a).toNatClampNeg - 48) = (c a).toNatClampNeg by omega]
  exact e
theorem nx_le {c : Nat → Int32} {t m : Nat} : ∀ b v a, v ≤ m → a ≤ t → (nx c t m b v a).1 ≤ m ∧ a ≤ (nx c t m b v a).2 ∧ (nx c t m b v a).2 ≤ t
  | 0, v, a, hv, ha => ⟨hv, Nat.le_refl _, ha⟩
  | b + 1, v, a, hv, ha => by
    rw [nx]
    by_cases h : gof c t m v a
    · rw [if_pos h]
      have h1 := h.1.1
      obtain ⟨g1, g2, g3⟩ := nx_le (c := c) (t := t) (m := m) b (10 * v + dv c a) (a + 1) h.2.2 (by omega)
      exact ⟨g1, by omega, g3⟩
    · rw [if_neg h]
      exact ⟨hv, Nat.le_refl _, ha⟩
def XT (μ : hb_m) (c : Nat → Int32) (t a : Nat) : Prop := rd μ 231 1 = nI t ∧ rd μ 231 2 = nI a ∧ ∀ i, i < t → rd μ 232 i = c i
def MT (ν : hb_m) (c : Nat → Int32) (t a : Nat) : Prop := rd ν 0 6 = nI t ∧ rd ν 0 13 = nI a ∧ ∀ i, i < t → rd ν 4 i = c i
theorem X_aD {n t a : Nat} {c : Nat → Int32} {μ : hb_m} (h : XT μ c t a) (ht : t ≤ 60) (ha : a ≤ t) : fX3_isAtDigit n μ = some (if dg c t a then 1 else 0, μ) := by
  obtain ⟨h1, h2, h3⟩ := h
  unfold fX3_isAtDigit
  rw [h1, h2]
  by_cases hat : a < t
  · rw [if_neg (by rw [le_ok (by omega) (by omega)]; omega), ib_ok (by omega) (by omega), if_pos rfl, if_pos rfl, cl_ok (by omega), h3 a hat]
    by_cases c1 : c a < 48
    · rw [if_pos c1, if_neg (fun q => absurd q.2.1 (Int32.not_le.mpr c1))]
    · by_cases c2 : 57 < c a
      · rw [if_neg c1, if_pos c2, if_neg (fun q => absurd q.2.2 (Int32.not_le.mpr c2))]
      · rw [if_neg c1, if_neg c2, if_pos ⟨hat, Int32.not_lt.mp c1, Int32.not_lt.mp c2⟩]
  · rw [if_pos (by rw [le_ok (by omega) (by omega)]; omega), if_neg (fun q => hat q.1)]
theorem X_dgt {n t a : Nat} {c : Nat → Int32} {μ : hb_m} (h : XT μ c t a) (ht : t ≤ 60) (hd : dg c t a) : fX3_digit n μ = some (nI (dv c a), μ) := by
  obtain ⟨h1, h2, h3⟩ := h
  have hat := hd.1
  unfold fX3_digit
  rw [h2, ib_ok (by omega) (by omega), if_pos rfl, cl_ok (by omega), h3 a hat, (dg_dv hd).1, li48, sub_ok (by omega), show 48 + dv c a - 48 = dv c a by omega]
theorem X_dF {n t a m v : Nat} {c : Nat → Int32} {μ : hb_m} (h : XT μ c t a) (hv : rd μ 231 3 = nI v) (hv9 : v ≤ 9999) (hm9 : m ≤ 9999) (ht : t ≤ 60) (ha : a ≤ t) : fX3_isDigitFitting n (nI m) μ = some (if gof c t m v a then 1 else 0, μ) := by
  unfold fX3_isDigitFitting
  rw [X_aD h ht ha, bi_some]
  by_cases hd : dg c t a
  · rw [if_pos hd]
    simp only [e10, if_false]
    have hd9 := (dg_dv hd).2
    rw [hv]
    by_cases h0 : v = 0
    · rw [if_pos (by rw [h0]; decide), if_neg (fun q => by have := q.2.1; omega)]
    · rw [if_neg (by rw [li0, le_ok (by omega) (by omega)]; omega), X_dgt h ht hd, bi_some, li10, pk_mul, nI_add]
      by_cases hg : 10 * v + dv c a ≤ m
      · rw [if_neg (by rw [lt_ok (by omega) (by omega)]; omega), if_pos ⟨hd, by omega, hg⟩]
      · rw [if_pos (by rw [lt_ok (by omega) (by omega)]; omega), if_neg (fun q => hg q.2.2)]
  · rw [if_neg hd, if_pos (show (0 : Int32) = 0 from rfl), if_neg (fun q => hd q.1)]
/-- what reading a number leaves -/
def xN (μ μ' : hb_m) : Prop := ∀ k j, (k ≠ 231 ∨ (j ≠ 2 ∧ j ≠ 3)) → rd μ' k j = rd μ k j
def mN (ν ν' : hb_m) : Prop := ∀ k j, (k ≠ 0 ∨ j ≠ 13) → rd ν' k j = rd ν k j
theorem X_tn {n t m : Nat} {c : Nat → Int32} (ht : t ≤ 60) (hm9 : m ≤ 9999) : ∀ b v a x f (μ : hb_m), (v = 0 ∨ 9999 < v * 10 ^ b) → v ≤ 9999 → x + b < 60 → b < f → a ≤ t → XT μ c t a → rd μ 231 3 = nI v → ∃ μ', lX3_takeNumber_29 n (nI m) (fun x2_29 m29 => some ((1 : Int32), m29)) f (nI x) μ = some (1, μ') ∧ XT μ' c t (nx c t m b v a).2 ∧ rd μ' 231 3 = nI (nx c t m b v a).1 ∧ xN μ μ'
  | 0, v, a, x, f + 1, μ, hv, hv9, hx, hf, ha, h, h3 => by
    have h0 : v = 0 := by
      rcases hv with hv | hv
      · exact hv
      · rw [Nat.pow_zero] at hv; omega
    refine ⟨μ, ?_, h, h3, fun _ _ _ => rfl⟩
    rw [lX3_takeNumber_29]
    rw [if_neg (by rw [li60, le_ok (by omega) (by omega)]; omega), X_dF h h3 hv9 hm9 ht ha, bi_some, if_neg (show ¬ gof c t m v a from fun q => by have := q.2.1; omega), if_pos (show (0 : Int32) = 0 from rfl)]
  | b + 1, v, a, x, f + 1, μ, hv, hv9, hx, hf, ha, h, h3 => by
    rw [lX3_takeNumber_29]
    rw [if_neg (by rw [li60, le_ok (by omega) (by omega)]; omega), X_dF h h3 hv9 hm9 ht ha, bi_some, nx]
    by_cases hg : gof c t m v a
    · rw [if_pos hg, if_pos hg]
      simp only [e10, if_false]
      have hd9 := (dg_dv hg.1).2
      have hat := hg.1.1
      have hgm := hg.2.2
      have hg0 := hg.2.1
      rw [X_dgt h ht hg.1, bi_some, h3, show (10 : Int32) = nI 10 from rfl, pk_mul, nI_add, show rd (wr μ 231 3 (nI (10 * v + dv c a))) 231 2 = nI a by rw [rd_wr, if_neg (by omega)]; exact h.2.1, show (1 : Int32) = nI 1 from rfl, nI_add, nI_add]
      have h' : XT (wr (wr μ 231 3 (nI (10 * v + dv c a))) 231 2 (nI (a + 1))) c t (a + 1) := by
        refine ⟨?_, ?_, fun i hi => ?_⟩
        · rw [rd_wr, if_neg (by omega), rd_wr, if_neg (by omega)]; exact h.1
        · rw [rd_wr, if_pos ⟨rfl, rfl⟩]
        · rw [rd_wr, if_neg (by omega), rd_wr, if_neg (by omega)]; exact h.2.2 i hi
      have h3' : rd (wr (wr μ 231 3 (nI (10 * v + dv c a))) 231 2 (nI (a + 1))) 231 3 = nI (10 * v + dv c a) := by rw [rd_wr, if_neg (by omega), rd_wr, if_pos ⟨rfl, rfl⟩]
      have hv' : 9999 < (10 * v + dv c a) * 10 ^ b := by
        have h1 : 9999 < v * 10 ^ (b + 1) := by
          rcases hv with hv | hv
          · omega
          · exact hv
        have h2 : v * 10 ^ (b + 1) = 10 * v * 10 ^ b := by rw [Nat.pow_succ]; ac_rfl
        have h4 : 10 * v * 10 ^ b ≤ (10 * v + dv c a) * 10 ^ b := Nat.mul_le_mul_right _ (by omega)
        omega
      obtain ⟨μ', e, g1, g2, g3⟩ := X_tn (n := n) ht hm9 b (10 * v + dv c a) (a + 1) (x + 1) f _ (Or.inr hv') (by omega) (by omega) (by omega) (by omega) h' h3'
      refine ⟨μ', e, g1, g2, fun k j hk => ?_⟩
      rw [g3 k j hk, rd_wr, if_neg (by omega), rd_wr, if_neg (by omega)]
    · rw [if_neg hg, if_neg hg, if_pos (show (0 : Int32) = 0 from rfl)]
      exact ⟨μ, rfl, h, h3, fun _ _ _ => rfl⟩
theorem X_num {n t m a : Nat} {c : Nat → Int32} {μ : hb_m} (ht : t ≤ 60) (hm9 : m ≤ 9999) (ha : a ≤ t) (h : XT μ c t a) (hd : dg c t a) (hn : 2147483648 ≤ n) : ∃ μ', fX3_takeNumber n (nI m) μ = some (1, μ') ∧ XT μ' c t (nx c t m 4 (dv c a) (a + 1)).2 ∧ rd μ' 231 3 = nI (nx c t m 4 (dv c a) (a + 1)).1 ∧ xN μ μ' := by
  unfold fX3_takeNumber
  have hat := hd.1
  have hd9 := (dg_dv hd).2
  rw [X_aD h ht ha, bi_some, if_pos hd]
  simp only [e10, if_false]
  rw [X_dgt h ht hd, bi_some, show rd (wr μ 231 3 (nI (dv c a))) 231 2 = nI a by rw [rd_wr, if_neg (by omega)]; exact h.2.1, li1, nI_add]
  have h' : XT (wr (wr μ 231 3 (nI (dv c a))) 231 2 (nI (a + 1))) c t (a + 1) := by
    refine ⟨?_, ?_, fun i hi => ?_⟩
    · rw [rd_wr, if_neg (by omega), rd_wr, if_neg (by omega)]; exact h.1
    · rw [rd_wr, if_pos ⟨rfl, rfl⟩]
    · rw [rd_wr, if_neg (by omega), rd_wr, if_neg (by omega)]; exact h.2.2 i hi
  have h3' : rd (wr (wr μ 231 3 (nI (dv c a))) 231 2 (nI (a + 1))) 231 3 = nI (dv c a) := by rw [rd_wr, if_neg (by omega), rd_wr, if_pos ⟨rfl, rfl⟩]
  obtain ⟨μ', e, g1, g2, g3⟩ := X_tn (n := n) ht hm9 4 (dv c a) (a + 1) 1 n _ (by omega) (by omega) (by omega) (by omega) (by omega) h' h3'
  refine ⟨μ', e, g1, g2, fun k j hk => ?_⟩
  rw [g3 k j hk, rd_wr, if_neg (by omega), rd_wr, if_neg (by omega)]
theorem X_num0 {n t a : Nat} {m : Int32} {c : Nat → Int32} {μ : hb_m} (ht : t ≤ 60) (ha : a ≤ t) (h : XT μ c t a) (hd : ¬ dg c t a) : fX3_takeNumber n m μ = some (0, μ) := by
  unfold fX3_takeNumber
  rw [X_aD h ht ha, bi_some, if_neg hd, if_pos (show (0 : Int32) = 0 from rfl)]
theorem M_sees {n t a : Nat} {p q : Int32} {c : Nat → Int32} {ν : hb_m} (h : MT ν c t a) (ht : t ≤ 60) (ha : a ≤ t) : fX6_sees n p q ν = some (if a < t ∧ p ≤ c a ∧ c a ≤ q then 1 else 0, ν) := by
  obtain ⟨h1, h2, h3⟩ := h
  unfold fX6_sees
  rw [h1, h2]
  by_cases hat : a < t
  · rw [if_neg (by rw [le_ok (by omega) (by omega)]; omega), ib_ok (by omega) (by omega), if_pos rfl, cl_ok (by omega), h3 a hat, M_in, bi_some]
    by_cases hc : p ≤ c a ∧ c a ≤ q
    · rw [if_pos hc, if_pos (show a < t ∧ p ≤ c a ∧ c a ≤ q from ⟨hat, hc⟩)]
      simp only [e10, if_false]
    · rw [if_neg hc, if_neg (show ¬ (a < t ∧ p ≤ c a ∧ c a ≤ q) from fun z => hc z.2), if_pos (show (0 : Int32) = 0 from rfl)]
  · rw [if_pos (by rw [le_ok (by omega) (by omega)]; omega), if_neg (fun q => hat q.1)]
theorem M_tn {n t m : Nat} {c : Nat → Int32} (ht : t ≤ 60) (hm9 : m ≤ 9999) : ∀ b v a f (ν : hb_m), (v = 0 ∨ 9999 < v * 10 ^ b) → v ≤ 9999 → b < f → a ≤ t → MT ν c t a → ∃ ν', lX6_number_37 n (nI m) (fun x2_37 m37 => some (x2_37, m37)) f (nI v) ν = some (nI (nx c t m b v a).1, ν') ∧ MT ν' c t (nx c t m b v a).2 ∧ mN ν ν'
  | b, v, a, f + 1, ν, hv, hv9, hf, ha, h => by
    rw [lX6_number_37]
    by_cases h0 : v = 0
    · rw [if_pos (by rw [h0]; decide)]
      have hs : nx c t m b v a = (v, a) := by
        cases b with
        | zero => rfl
        | succ b => rw [nx, if_neg (fun q => by have := q.2.1; omega)]
      rw [hs]
      exact ⟨ν, rfl, h, fun _ _ _ => rfl⟩
    · have hb1 : 9999 < v * 10 ^ b := by
        rcases hv with hv | hv
        · omega
        · exact hv
      cases b with
      | zero => rw [Nat.pow_zero] at hb1; omega
      | succ b =>
        rw [if_neg (by rw [li0, le_ok (by omega) (by omega)]; omega), M_sees h ht ha, bi_some, nx]
        by_cases hd : dg c t a
        · rw [if_pos hd]
          simp only [e10, if_false]
          have hd9 := (dg_dv hd).2
          have hat := hd.1
          have ev : 10 * nI v + c a - 48 = nI (10 * v + dv c a) := by rw [(dg_dv hd).1, li10, pk_mul, nI_add, li48, sub_ok (by omega), show 10 * v + (48 + dv c a) - 48 = 10 * v + dv c a by omega]
          rw [h.2.1, ib_ok (show a < 60 by omega) (by omega), if_pos rfl, if_pos rfl, cl_ok (by omega), h.2.2 a hat, ev]
          by_cases hg : 10 * v + dv c a ≤ m
          · rw [if_neg (by rw [lt_ok (by omega) (by omega)]; omega), if_pos ⟨hd, by omega, hg⟩, li1, nI_add]
            have h' : MT (wr ν 0 13 (nI (a + 1))) c t (a + 1) := by
              refine ⟨?_, ?_, fun i hi => ?_⟩
              · rw [rd_wr, if_neg (by omega)]; exact h.1
              · rw [rd_wr, if_pos ⟨rfl, rfl⟩]
              · rw [rd_wr, if_neg (by omega)]; exact h.2.2 i hi
            have hv' : 9999 < (10 * v + dv c a) * 10 ^ b := by
              have h2 : v * 10 ^ (b + 1) = 10 * v * 10 ^ b := by rw [Nat.pow_succ]; ac_rfl
              have h4 : 10 * v * 10 ^ b ≤ (10 * v + dv c a) * 10 ^ b := Nat.mul_le_mul_right _ (by omega)
              omega
            obtain ⟨ν', e, g1, g2⟩ := M_tn (n := n) ht hm9 b (10 * v + dv c a) (a + 1) f _ (Or.inr hv') (by omega) (by omega) (by omega) h'
            refine ⟨ν', e, g1, fun k j hk => ?_⟩
            rw [g2 k j hk, rd_wr, if_neg (by omega)]
          · rw [if_pos (by rw [lt_ok (by omega) (by omega)]; omega), if_neg (fun q => hg q.2.2)]
            exact ⟨ν, rfl, h, fun _ _ _ => rfl⟩
        · rw [if_neg hd, if_pos (show (0 : Int32) = 0 from rfl), if_neg (fun q => hd q.1)]
          exact ⟨ν, rfl, h, fun _ _ _ => rfl⟩
theorem M_num {n t m a : Nat} {c : Nat → Int32} {ν : hb_m} (ht : t ≤ 60) (hm9 : m ≤ 9999) (ha : a ≤ t) (h : MT ν c t a) (hd : dg c t a) (hn : 2147483648 ≤ n) : ∃ ν', fX6_number n (nI m) ν = some (nI (nx c t m 4 (dv c a) (a + 1)).1, ν') ∧ MT ν' c t (nx c t m 4 (dv c a) (a + 1)).2 ∧ mN ν ν' := by
  unfold fX6_number
  have hat := hd.1
  have hd9 := (dg_dv hd).2
  rw [M_sees h ht ha, bi_some, if_pos hd]
  simp only [e10, if_false]
  rw [h.2.1, ib_ok (show a < 60 by omega) (by omega), if_pos rfl, cl_ok (by omega), h.2.2 a hat, (dg_dv hd).1, li48, sub_ok (by omega), show 48 + dv c a - 48 = dv c a by omega, li1, nI_add]
  have h' : MT (wr ν 0 13 (nI (a + 1))) c t (a + 1) := by
    refine ⟨?_, ?_, fun i hi => ?_⟩
    · rw [rd_wr, if_neg (by omega)]; exact h.1
    · rw [rd_wr, if_pos ⟨rfl, rfl⟩]
    · rw [rd_wr, if_neg (by omega)]; exact h.2.2 i hi
  obtain ⟨ν', e, g1, g2⟩ := M_tn (n := n) ht hm9 4 (dv c a) (a + 1) n _ (by omega) (by omega) (by omega) (by omega) h'
  refine ⟨ν', e, g1, fun k j hk => ?_⟩
  rw [g2 k j hk, rd_wr, if_neg (by omega)]
theorem M_num0 {n t a : Nat} {m : Int32} {c : Nat → Int32} {ν : hb_m} (ht : t ≤ 60) (ha : a ≤ t) (h : MT ν c t a) (hd : ¬ dg c t a) : fX6_number n m ν = some (-5, ν) := by
  unfold fX6_number
  rw [M_sees h ht ha, bi_some, if_neg hd, if_pos (show (0 : Int32) = 0 from rfl)]

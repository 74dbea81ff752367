/-! BOTH SIDES: questions (2) -/
theorem M_isF_y {n F j : Nat} {ν : hb_m} (hF : rd ν 1 0 = nI F) (h8 : F ≤ 20) (hj : j < F) : fX6_isFlat n (nI j) ν = some (1, ν) := by
  unfold fX6_isFlat
  have c : 0 ≤ nI j ∧ nI j ≤ nI F - 1 := by rw [isI_eq (by omega)]; exact isI_y hj (by omega)
  rw [show (0 : Int32).toNatClampNeg = 0 from rfl, hF, show ib 0 415 = true from by decide, if_pos rfl, M_in, bi_some, if_pos c, if_pos nar1]
theorem M_isF_n {n F : Nat} {p : Int32} {ν : hb_m} (hF : rd ν 1 0 = nI F) (h8 : F ≤ 20) (hj : p < 0 ∨ nI F ≤ p) : fX6_isFlat n p ν = some (0, ν) := by
  unfold fX6_isFlat
  have c : ¬ (0 ≤ p ∧ p ≤ nI F - 1) := by rw [isI_eq (by omega)]; exact isI_n hj
  rw [show (0 : Int32).toNatClampNeg = 0 from rfl, hF, show ib 0 415 = true from by decide, if_pos rfl, M_in, bi_some, if_neg c, if_pos nar0]
theorem M_isD_y {n F j : Nat} {ν : hb_m} (hF : rd ν 1 1 = nI F) (h8 : F ≤ 20) (hj : j < F) : fX6_isDevice n (nI j) ν = some (1, ν) := by
  unfold fX6_isDevice
  have c : 0 ≤ nI j ∧ nI j ≤ nI F - 1 := by rw [isI_eq (by omega)]; exact isI_y hj (by omega)
  rw [show (1 : Int32).toNatClampNeg = 1 from rfl, hF, show ib 1 415 = true from by decide, if_pos rfl, M_in, bi_some, if_pos c, if_pos nar1]
theorem M_isD_n {n F : Nat} {p : Int32} {ν : hb_m} (hF : rd ν 1 1 = nI F) (h8 : F ≤ 20) (hj : p < 0 ∨ nI F ≤ p) : fX6_isDevice n p ν = some (0, ν) := by
  unfold fX6_isDevice
  have c : ¬ (0 ≤ p ∧ p ≤ nI F - 1) := by rw [isI_eq (by omega)]; exact isI_n hj
  rw [show (1 : Int32).toNatClampNeg = 1 from rfl, hF, show ib 1 415 = true from by decide, if_pos rfl, M_in, bi_some, if_neg c, if_pos nar0]
theorem M_isC_y {n F j : Nat} {ν : hb_m} (hF : rd ν 1 2 = nI F) (h8 : F ≤ 20) (hj : j < F) : fX6_isClosed n (nI j) ν = some (1, ν) := by
  unfold fX6_isClosed
  have c : 0 ≤ nI j ∧ nI j ≤ nI F - 1 := by rw [isI_eq (by omega)]; exact isI_y hj (by omega)
  rw [show (2 : Int32).toNatClampNeg = 2 from rfl, hF, show ib 2 415 = true from by decide, if_pos rfl, M_in, bi_some, if_pos c, if_pos nar1]
theorem M_isC_n {n F : Nat} {p : Int32} {ν : hb_m} (hF : rd ν 1 2 = nI F) (h8 : F ≤ 20) (hj : p < 0 ∨ nI F ≤ p) : fX6_isClosed n p ν = some (0, ν) := by
  unfold fX6_isClosed
  have c : ¬ (0 ≤ p ∧ p ≤ nI F - 1) := by rw [isI_eq (by omega)]; exact isI_n hj
  rw [show (2 : Int32).toNatClampNeg = 2 from rfl, hF, show ib 2 415 = true from by decide, if_pos rfl, M_in, bi_some, if_neg c, if_pos nar0]
theorem X_hF_y {n B F j : Nat} {μ : hb_m} (hF : rd μ B 0 = nI F) (h8 : F ≤ 20) (hj : j < F) : fX2_hasFlat n B (nI j) μ = some (1, μ) := by
  rw [X_hasFlat, hF, if_pos (isI_y hj (by omega))]
theorem X_hF_n {n B F : Nat} {p : Int32} {μ : hb_m} (hF : rd μ B 0 = nI F) (hj : p < 0 ∨ nI F ≤ p) : fX2_hasFlat n B p μ = some (0, μ) := by
  rw [X_hasFlat, hF, if_neg (isI_n hj)]
theorem X_hD_y {n B F j : Nat} {μ : hb_m} (hF : rd μ B 2 = nI F) (h8 : F ≤ 20) (hj : j < F) : fX4_hasDevice n B (nI j) μ = some (1, μ) := by
  rw [X_hasDev, hF, if_pos (isI_y hj (by omega))]
theorem X_hD_n {n B F : Nat} {p : Int32} {μ : hb_m} (hF : rd μ B 2 = nI F) (hj : p < 0 ∨ nI F ≤ p) : fX4_hasDevice n B p μ = some (0, μ) := by
  rw [X_hasDev, hF, if_neg (isI_n hj)]
theorem ix_cases (p : Int32) (F : Nat) (hF : F < 2147483648) : (p < 0 ∨ nI F ≤ p) ∨ ∃ j, j < F ∧ p = nI j := by
  rcases pk_ix p (n := F) hF with h | h | h
  · exact Or.inl (Or.inl h)
  · exact Or.inl (Or.inr h)
  · exact Or.inr h
/-- the costs of the open year, on both sides -/
theorem Q_open {n : Nat} {μ ν : hb_m} {ga gb : hb_m} (h : RQ ga gb μ ν) (hn : 2147483648 ≤ n) : ∃ F D Y μ' ν', Inv (rd ν 1) F D Y ∧ Rep μ 0 (rd ν 1) F D Y ∧ fX5_drawUpOpenYear n μ = some μ' ∧ fX6_laysOpen n (rd ν 1 4) ν = some ν' ∧ RQ ga gb μ' ν' ∧ Rep μ' 0 (rd ν 1) F D Y ∧ rd ν' 1 = rd ν 1 ∧ (∀ i, i < F → rd μ' 237 i = rd ν' 9 i ∧ rd μ' 238 i = rd ν' 10 i) ∧ (∀ f, f < 8 → rd μ' 236 f = rd ν' 8 f ∧ rd μ' 236 f = p_fU (p_uN (rd ν 1) D Y) (rd ν 1) D f) ∧ (∀ d, d < D → rd μ' 11 d = p_uN (rd ν 1) D Y d) ∧ fX μ μ' ∧ fM ν ν' ∧ (∀ k i, k < 38 → k ≠ 11 → rd μ' k i = rd μ k i) := by
  obtain ⟨F, D, Y, hi, hr⟩ := h.1
  obtain ⟨μ', e1, s1, g1, g2, g3⟩ := X_dO hi hr hn
  have hat : ∀ d, d < D → ∃ a, a < F ∧ rd ν 1 (31 + 5 * d) = nI a := by
    obtain ⟨-, -, -, -, -, q, -⟩ := hi
    exact q
  have hF8 := hi.1.1
  have hU := (fU_all (ρ := rd ν 1) (u := p_uN (rd ν 1) D Y) hF8 hi.1.2.1 (fun d hd => uN_b hi hd) hat).1
  obtain ⟨ν', e2, s2, q1, q2⟩ := M_lOp (n := n) (b := rd ν 1 4) hi.2.1.1 hF8 hi.2.2.1 hi.2.1.2.1 hi.1.2.1 hi.2.1.2.2 hi.1.2.2 (fun d hd => by obtain ⟨a, ha, e⟩ := hat d hd; exact ⟨a, by omega, e⟩) (fun z => (gp_all (gn_pos hU z)).2.2) hn
  have hx : ∀ k i, (k < 236 ∧ k ≠ 11 ∨ k = 239) → rd μ' k i = rd μ k i := fun k i hk => (s1 k (by simp; omega)).1 i
  have hm : ∀ k i, k < 5 → rd ν' k i = rd ν k i := fun k i hk => (s2 k (by simp; omega)).1 i
  have hr1 : rd ν' 1 = rd ν 1 := funext (fun i => hm 1 i (by omega))
  have fx : fX μ μ' := fun k i hk => hx k i (by omega)
  have fm : fM ν ν' := fun k i hk => hm k i (by omega)
  refine ⟨F, D, Y, μ', ν', hi, hr, e1, e2, ?_, ?_, hr1, fun i hi' => ?_, fun f hf => ?_, g3, fx, fm, fun k i hk hk2 => hx k i (by omega)⟩
  · exact RQ_q h fx fm (fun k i hk hk2 => hx k i (by omega)) (fun i => hm 1 i (by omega))
  · exact Rep_fr hr hi.1.1 hi.1.2.1 hi.1.2.2 (fun r i hv hne => hx _ _ (by unfold vH vY at hv; omega)) (fun y q i hy hv => hx _ _ (by unfold vY at hv; omega))
  · exact ⟨(g1 i hi').1.trans (q1 i hi').1.symm, (g1 i hi').2.trans (q1 i hi').2.symm⟩
  · exact ⟨(g2 f hf).trans (q2 f hf).symm, g2 f hf⟩
def p_bit (ρ : Nat → Int32) (f : Int32) : Nat → Int32
  | 0 => 0
  | d + 1 => p_bit ρ f d ||| (if ρ (31 + 5 * d) = f then 1 <<< (nI d &&& 31) else 0)
theorem X_bit {n B D : Nat} {f : Int32} {ρ : Nat → Int32} {μ : hb_m} (hD : rd μ (B + 8) 2 = nI D) (hD20 : D ≤ 20) (h2 : ∀ d, d < D → rd μ (B + 2) d = ρ (31 + 5 * d)) (hn : 2147483648 ≤ n) : fX2_devicesAsBits n B f μ = some (p_bit ρ f D, μ) := by
  unfold fX2_devicesAsBits
  obtain ⟨⟨a, μ'⟩, ⟨h1, h2'⟩, e⟩ := lo (S := Int32 × hb_m) (fun g i s => lX2_devicesAsBits_4 n B f (fun x3_4 x2_4 m4 => some (x2_4, m4)) g (nI i) s.1 s.2) D (fun s => some (s.1, s.2)) (fun i s => s.1 = p_bit ρ f i ∧ s.2 = μ)
    (fun g s hI => by
      obtain ⟨a, μ'⟩ := s
      obtain ⟨h1, rfl⟩ := hI
      rw [lX2_devicesAsBits_4]
      dsimp only
      rw [hD, if_pos (by rw [le_ok (by omega) (by omega)]; omega)])
    (fun g i s hi hI => by
      obtain ⟨a, μ'⟩ := s
      obtain ⟨h1, rfl⟩ := hI
      dsimp only at h1 ⊢
      subst h1
      refine ⟨(p_bit ρ f (i + 1), μ'), ⟨rfl, rfl⟩, ?_⟩
      rw [lX2_devicesAsBits_4]
      rw [hD, if_neg (by rw [le_ok (by omega) (by omega)]; omega), ib_ok (by omega) (by omega), if_pos rfl, cl_ok (by omega), h2 i hi]
      by_cases hf : ρ (31 + 5 * i) = f
      · rw [if_pos hf, p_bit, if_pos hf, show nI (i + 1) = nI i + 1 from (nI_1 i).symm]
      · rw [if_neg hf, p_bit, if_neg hf, Int32.or_zero, show nI (i + 1) = nI i + 1 from (nI_1 i).symm])
    n 0 (0, μ) (by omega) (by omega) ⟨rfl, rfl⟩
  refine Eq.trans e ?_
  rw [h1, h2']
theorem M_bit {n D : Nat} {f : Int32} {ν : hb_m} (hD : rd ν 1 1 = nI D) (hD20 : D ≤ 20) (hn : 2147483648 ≤ n) : fX6_devicesOf n f ν = some (p_bit (rd ν 1) f D, ν) := by
  unfold fX6_devicesOf
  obtain ⟨⟨a, μ'⟩, ⟨h1, h2'⟩, e⟩ := lo (S := Int32 × hb_m) (fun g i s => lX6_devicesOf_4 n f (fun x3_4 x2_4 m4 => some (x2_4, m4)) g (nI i) s.1 s.2) D (fun s => some (s.1, s.2)) (fun i s => s.1 = p_bit (rd ν 1) f i ∧ s.2 = ν)
    (fun g s hI => by
      obtain ⟨a, μ'⟩ := s
      obtain ⟨h1, rfl⟩ := hI
      rw [lX6_devicesOf_4]
      dsimp only
      rw [show (1 : Int32).toNatClampNeg = 1 from rfl, hD, show ib 1 415 = true from by decide, if_pos rfl, if_pos (by rw [le_ok (by omega) (by omega)]; omega)])
    (fun g i s hi hI => by
      obtain ⟨a, μ'⟩ := s
      obtain ⟨h1, rfl⟩ := hI
      dsimp only at h1 ⊢
      subst h1
      refine ⟨(p_bit (rd μ' 1) f (i + 1), μ'), ⟨rfl, rfl⟩, ?_⟩
      rw [lX6_devicesOf_4]
      rw [show (1 : Int32).toNatClampNeg = 1 from rfl, hD, show ib 1 415 = true from by decide, if_pos rfl, if_neg (by rw [le_ok (by omega) (by omega)]; omega), show (0 : Int32) = nI 0 from rfl, M_of (by omega), bi_some, Nat.add_zero]
      by_cases hf : rd μ' 1 (31 + 5 * i) = f
      · rw [if_pos hf, p_bit, if_pos hf, show nI (i + 1) = nI i + 1 from (nI_1 i).symm]
      · rw [if_neg hf, p_bit, if_neg hf, show nI (i + 1) = nI i + 1 from (nI_1 i).symm]
        rfl)
    n 0 (0, ν) (by omega) (by omega) ⟨rfl, rfl⟩
  refine Eq.trans e ?_
  rw [h1, h2']

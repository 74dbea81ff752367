/-! BOTH SIDES: other base shares, the greatest -/
theorem p_usd_co {ρ : Nat → Int32} {F i : Nat} {U V : Nat → Int32} {c b : Int32} (h : ∀ j, j < F → U j = V j) (hi : i < F) : p_usd ρ F U c b i = p_usd ρ F V c b i := by
  unfold p_usd
  rw [sI_co F h]
  by_cases h0 : sI V F ≤ 0
  · rw [if_pos h0, if_pos h0]
  · rw [if_neg h0, if_neg h0]
    exact p_sh_co (by omega) h hi
/-- the bill of a flat with a base share -/
def p_bl (ρ : Nat → Int32) (F D Y f : Nat) (b : Int32) : Int32 := p_bse ρ F (ρ 3) b f + p_usd ρ F (p_fU (p_uN ρ D Y) ρ D) (ρ 3) b f
theorem M_bBy {n F D Y f : Nat} {b : Int32} {ν : hb_m} (hi : Inv (rd ν 1) F D Y) (hf : f < F) (hn : 2147483648 ≤ n) : ∃ ν', fX6_billBy n (nI f) b ν = some (p_bl (rd ν 1) F D Y f b, ν') ∧ sx [5, 6, 7, 8, 9, 10] ν ν' := by
  have hat : ∀ d, d < D → ∃ a, a < F ∧ rd ν 1 (31 + 5 * d) = nI a := by
    obtain ⟨-, -, -, -, -, q, -⟩ := hi
    exact q
  have hF8 := hi.1.1
  have hU := (fU_all (ρ := rd ν 1) (u := p_uN (rd ν 1) D Y) hF8 hi.1.2.1 (fun d hd => uN_b hi hd) hat).1
  obtain ⟨ν', e2, s2, q1, q2⟩ := M_lOp (n := n) (b := b) hi.2.1.1 hF8 hi.2.2.1 hi.2.1.2.1 hi.1.2.1 hi.2.1.2.2 hi.1.2.2 (fun d hd => by obtain ⟨a, ha, e⟩ := hat d hd; exact ⟨a, by omega, e⟩) (fun z => (gp_all (gn_pos hU z)).2.2) hn
  unfold fX6_billBy
  rw [e2, bv_some, ib_ok (show f < 8 by omega) (by omega), if_pos rfl, if_pos rfl, cl_ok (by omega), (q1 f hf).1, (q1 f hf).2]
  exact ⟨ν', rfl, s2⟩
theorem X_bWS {n F D Y f : Nat} {b : Int32} {ρ : Nat → Int32} {μ : hb_m} (hi : Inv ρ F D Y) (hr : Rep μ 0 ρ F D Y) (hu : ∀ f, f < 8 → rd μ 236 f = p_fU (p_uN ρ D Y) ρ D f) (hf : f < F) (hn : 2147483648 ≤ n) : ∃ μ', fX5_billWithShare n (nI f) b μ = some (p_bl ρ F D Y f b, μ') ∧ sx [237, 238, 240] μ μ' := by
  have hat : ∀ d, d < D → ∃ a, a < F ∧ ρ (31 + 5 * d) = nI a := by
    obtain ⟨-, -, -, -, -, q, -⟩ := hi
    exact q
  have hF8 := hi.1.1
  have hU := (fU_all (ρ := ρ) (u := p_uN ρ D Y) hF8 hi.1.2.1 (fun d hd => uN_b hi hd) hat).1
  obtain ⟨⟨a0, a1, a2, a3⟩, ⟨b0, b1, b2⟩, c1, -⟩ := hr
  obtain ⟨μ', e1, s1, g1⟩ := X_sC (n := n) (F := F) (B := 0) (c := rd μ (0 + 8) 0) (b := b) (ρ := ρ) (μ := μ) hx_H0 a0 hF8 hi.2.2.1 c1 (gn_co hU (fun i hi' => hu i (by omega))) hn
  unfold fX5_billWithShare
  rw [e1, bv_some, X_bF (by omega), bi_some, (g1 f hf).1, (g1 f hf).2, b0, p_usd_co (fun j hj => hu j (by omega)) hf]
  exact ⟨μ', rfl, s1⟩
theorem fX_sx {S : List Nat} {μ μ' : hb_m} (h : sx S μ μ') (hs : ∀ k, (38 ≤ k ∧ k < 231 ∨ k = 232 ∨ k = 231) → k ∉ S) : fX μ μ' := fun k i hk => (h k (hs k (by omega))).1 i
theorem fM_sx {S : List Nat} {μ μ' : hb_m} (h : sx S μ μ') (hs : ∀ k, (k = 0 ∨ 2 ≤ k ∧ k ≤ 4) → k ∉ S) : fM μ μ' := fun k i hk => (h k (hs k (by omega))).1 i
theorem Q_billIf {n : Nat} {p1 p2 : Int32} {μ ν : hb_m} {ga gb : hb_m} (h : RQ ga gb μ ν) (hn : 2147483648 ≤ n) : Oq ga gb (fX5_billIf n p1 p2 μ) (fX6_billIf n p1 p2 ν) := by
  obtain ⟨F, D, Y, μ', ν', hi, hr, e1, e2, hR, hr', h1, g1, g2, g3, fx, fm, hk⟩ := Q_open h hn
  have hF8 := hi.1.1
  unfold fX5_billIf fX6_billIf
  rcases ix_cases p1 F (by omega) with hp | ⟨f, hf, rfl⟩
  · rw [X_hF_n hr.1.1 hp, M_isF_n hi.2.1.1 (by omega) hp, bi_some, bi_some]
    simp only [e00, if_true]
    exact oq_mk rfl h
  · rw [X_hF_y hr.1.1 (by omega) hf, M_isF_y hi.2.1.1 (by omega) hf, bi_some, bi_some]
    simp only [e10, if_false]
    rw [M_in, bi_some]
    by_cases h0 : p2 < 0
    · rw [if_pos h0, if_neg (fun q : 0 ≤ p2 ∧ p2 ≤ 100 => absurd q.1 (Int32.not_le.mpr h0)), if_pos (show (0 : Int32) = 0 from rfl)]
      exact oq_mk rfl h
    · rw [if_neg h0]
      by_cases h100 : p2 ≤ 100
      · rw [if_pos h100, if_pos (show 0 ≤ p2 ∧ p2 ≤ 100 from ⟨Int32.not_lt.mp h0, h100⟩), e1, bv_some]
        simp only [e10, if_false]
        obtain ⟨μ2, e3, s3⟩ := X_bWS (n := n) (f := f) (b := p2) hi hr' (fun f hf => (g2 f hf).2) hf hn
        obtain ⟨ν2, e4, s4⟩ := M_bBy (n := n) (f := f) (b := p2) hi hf hn
        rw [e3, e4, bi_some, bi_some]
        refine oq_mk rfl (RQ_q h (fX_tr fx (fX_sx s3 (by intro k hk; simp; omega))) (fM_sx s4 (by intro k hk; simp; omega)) (fun k i hk1 hk2 => ((s3 k (by simp; omega)).1 i).trans (hk k i hk1 hk2)) (fun i => (s4 1 (by simp)).1 i))
      · rw [if_neg h100, if_neg (fun q : 0 ≤ p2 ∧ p2 ≤ 100 => h100 q.2), if_pos (show (0 : Int32) = 0 from rfl)]
        exact oq_mk rfl h
def p_bsr (b : Nat → Int32) : Nat → Int32 × Int32
  | 0 => (b 0, 0)
  | i + 1 => if (p_bsr b i).1 ≤ b (i + 1) then p_bsr b i else (b (i + 1), nI (i + 1))
theorem Q_bestShare {n : Nat} {p1 : Int32} {μ ν : hb_m} {ga gb : hb_m} (h : RQ ga gb μ ν) (hn : 2147483648 ≤ n) : Oq ga gb (fX5_bestShare n p1 μ) (fX6_bestShare n p1 ν) := by
  obtain ⟨F, D, Y, μ', ν', hi, hr, e1, e2, hR, hr', h1, g1, g2, g3, fx, fm, hk⟩ := Q_open h hn
  have hF8 := hi.1.1
  unfold fX5_bestShare fX6_bestShare
  rcases ix_cases p1 F (by omega) with hp | ⟨f, hf, rfl⟩
  · rw [X_hF_n hr.1.1 hp, M_isF_n hi.2.1.1 (by omega) hp, bi_some, bi_some]
    simp only [e00, if_true]
    exact oq_mk rfl h
  · rw [X_hF_y hr.1.1 (by omega) hf, M_isF_y hi.2.1.1 (by omega) hf, bi_some, bi_some]
    simp only [e10, if_false]
    rw [e1, bv_some]
    have hX : ∀ (s : hb_m) (b : Int32), sx [237, 238, 240] μ' s → ∃ s2, fX5_billWithShare n (nI f) b s = some (p_bl (rd ν 1) F D Y f b, s2) ∧ sx [237, 238, 240] μ' s2 := by
      intro s b hs
      obtain ⟨s2, e3, s3⟩ := X_bWS (n := n) (f := f) (b := b) (μ := s) hi (Rep_fr hr' hi.1.1 hi.1.2.1 hi.1.2.2 (fun r i hv hne => (hs _ (by unfold vH vY at hv; simp; omega)).1 i) (fun y q i hy hv => (hs _ (by unfold vY at hv; simp; omega)).1 i)) (fun f hf => by rw [(hs 236 (by simp)).1]; exact (g2 f hf).2) hf hn
      exact ⟨s2, e3, sx_tr hs s3⟩
    have hM : ∀ (s : hb_m) (b : Int32), sx [5, 6, 7, 8, 9, 10] ν s → ∃ s2, fX6_billBy n (nI f) b s = some (p_bl (rd ν 1) F D Y f b, s2) ∧ sx [5, 6, 7, 8, 9, 10] ν s2 := by
      intro s b hs
      have hr1 : rd s 1 = rd ν 1 := funext (hs 1 (by simp)).1
      obtain ⟨s2, e3, s3⟩ := M_bBy (n := n) (f := f) (b := b) (ν := s) (by rw [hr1]; exact hi) hf hn
      rw [hr1] at e3
      exact ⟨s2, e3, sx_tr hs s3⟩
    obtain ⟨μ1, x1, x2⟩ := hX μ' 0 sx_rf
    obtain ⟨ν1, y1, y2⟩ := hM ν 0 sx_rf
    rw [x1, y1, bi_some, bi_some]
    have hb0 : p_bl (rd ν 1) F D Y f 0 = (p_bsr (fun i => p_bl (rd ν 1) F D Y f (nI i)) 0).1 := rfl
    obtain ⟨⟨a, b, μ2⟩, ⟨i1, i2, -⟩, ex⟩ := lo (S := Int32 × Int32 × hb_m) (fun g i s => lX5_bestShare_29 n (nI f) (fun x4_29 x3_29 x2_29 m29 => some (x2_29, m29)) g (nI i) s.1 s.2.1 s.2.2) 101 (fun s => some (s.2.1, s.2.2)) (fun i s => (s.1, s.2.1) = p_bsr (fun i => p_bl (rd ν 1) F D Y f (nI i)) (i - 1) ∧ sx [237, 238, 240] μ' s.2.2 ∧ 1 ≤ i)
      (fun g s hI => by
        rw [lX5_bestShare_29]
        rw [if_pos (by rw [li100, lt_ok (by omega) (by omega)]; omega)])
      (fun g i s hi' hI => by
        obtain ⟨a, b, s⟩ := s
        obtain ⟨i1, i2, i3⟩ := hI
        dsimp only at i1 i2 i3 ⊢
        obtain ⟨j, rfl⟩ : ∃ j, i = j + 1 := ⟨i - 1, by omega⟩
        rw [Nat.add_sub_cancel] at i1
        obtain ⟨s2, z1, z2⟩ := hX s (nI (j + 1)) i2
        rw [lX5_bestShare_29]
        rw [if_neg (by rw [li100, lt_ok (by omega) (by omega)]; omega), z1, bi_some, li1, nI_add]
        by_cases hle : a ≤ p_bl (rd ν 1) F D Y f (nI (j + 1))
        · refine ⟨(a, b, s2), ⟨?_, z2, by omega⟩, by rw [if_pos hle]⟩
          rw [Nat.add_sub_cancel, p_bsr, ← i1, if_pos hle]
        · refine ⟨(p_bl (rd ν 1) F D Y f (nI (j + 1)), nI (j + 1), s2), ⟨?_, z2, by omega⟩, by rw [if_neg hle]⟩
          rw [Nat.add_sub_cancel, p_bsr, ← i1, if_neg hle])
      n 1 (p_bl (rd ν 1) F D Y f 0, 0, μ1) (by omega) (by omega) ⟨rfl, x2, by omega⟩
    obtain ⟨⟨a', b', ν2⟩, ⟨j1, j2, -⟩, ey⟩ := lo (S := Int32 × Int32 × hb_m) (fun g i s => lX6_bestShare_22 n (nI f) (fun x4_22 x3_22 x2_22 m22 => some (x2_22, m22)) g (nI i) s.1 s.2.1 s.2.2) 101 (fun s => some (s.2.1, s.2.2)) (fun i s => (s.1, s.2.1) = p_bsr (fun i => p_bl (rd ν 1) F D Y f (nI i)) (i - 1) ∧ sx [5, 6, 7, 8, 9, 10] ν s.2.2 ∧ 1 ≤ i)
      (fun g s hI => by
        rw [lX6_bestShare_22]
        rw [if_pos (by rw [li100, lt_ok (by omega) (by omega)]; omega)])
      (fun g i s hi' hI => by
        obtain ⟨a, b, s⟩ := s
        obtain ⟨i1, i2, i3⟩ := hI
        dsimp only at i1 i2 i3 ⊢
        obtain ⟨j, rfl⟩ : ∃ j, i = j + 1 := ⟨i - 1, by omega⟩
        rw [Nat.add_sub_cancel] at i1
        obtain ⟨s2, z1, z2⟩ := hM s (nI (j + 1)) i2
        rw [lX6_bestShare_22]
        rw [if_neg (by rw [li100, lt_ok (by omega) (by omega)]; omega), z1, bi_some, li1, nI_add]
        by_cases hle : a ≤ p_bl (rd ν 1) F D Y f (nI (j + 1))
        · refine ⟨(a, b, s2), ⟨?_, z2, by omega⟩, by rw [if_pos hle, if_pos hle]⟩
          rw [Nat.add_sub_cancel, p_bsr, ← i1, if_pos hle]
        · refine ⟨(p_bl (rd ν 1) F D Y f (nI (j + 1)), nI (j + 1), s2), ⟨?_, z2, by omega⟩, by rw [if_neg hle, if_neg hle]⟩
          rw [Nat.add_sub_cancel, p_bsr, ← i1, if_neg hle])
      n 1 (p_bl (rd ν 1) F D Y f 0, 0, ν1) (by omega) (by omega) ⟨rfl, y2, by omega⟩
    dsimp only at i1 i2 ex j1 j2 ey
    have hbb : b = b' := (Prod.mk.inj (i1.trans j1.symm)).2
    refine ⟨b, μ2, ν2, ex, by rw [hbb]; exact ey, ?_⟩
    exact RQ_q h (fX_tr fx (fX_sx i2 (by intro k hk; simp; omega))) (fM_sx j2 (by intro k hk; simp; omega)) (fun k i hk1 hk2 => ((i2 k (by simp; omega)).1 i).trans (hk k i hk1 hk2)) (fun i => (j2 1 (by simp)).1 i)

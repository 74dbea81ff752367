/-! SHARES: what both programs do, on functions -/
def p_all (parts : Nat → Int32) : Nat → Int64
  | 0 => 0
  | n + 1 => p_all parts n + (parts n).toInt64
def p_g0 (am : Int32) (parts : Nat → Int32) (all : Int64) (i : Nat) : Int32 := ((am.toInt64 * (parts i).toInt64) / all).toInt32
def p_r0 (am : Int32) (parts : Nat → Int32) (all : Int64) (i : Nat) : Int64 := am.toInt64 * (parts i).toInt64 - am.toInt64 * (parts i).toInt64 / all * all
def p_lf (am : Int32) (parts : Nat → Int32) (all : Int64) : Nat → Int32
  | 0 => am
  | i + 1 => p_lf am parts all i - p_g0 am parts all i
def p_bs (r : Nat → Int64) : Nat → Nat
  | 0 => 0
  | i + 1 => if lg_cmp (r i) (r (p_bs r i)) ≤ 0 then p_bs r i else i
def p_it (F : Nat) (g : Nat → Int32) (r : Nat → Int64) : Nat → (Nat → Int32) × (Nat → Int64)
  | 0 => (g, r)
  | c + 1 => (upd (p_it F g r c).1 (p_bs (p_it F g r c).2 F) ((p_it F g r c).1 (p_bs (p_it F g r c).2 F) + 1), vp_updL (p_it F g r c).2 (p_bs (p_it F g r c).2 F) (-1))
def p_sh (am : Int32) (parts : Nat → Int32) (F : Nat) : Nat → Int32 := (p_it F (p_g0 am parts (p_all parts F)) (p_r0 am parts (p_all parts F)) (p_lf am parts (p_all parts F) F).toNatClampNeg).1
theorem p_bs1 {r : Nat → Int64} : p_bs r 1 = 0 := by
  show (if lg_cmp (r 0) (r (p_bs r 0)) ≤ 0 then p_bs r 0 else 0) = 0
  by_cases h : lg_cmp (r 0) (r (p_bs r 0)) ≤ 0
  · rw [if_pos h]; rfl
  · rw [if_neg h]
theorem p_bs_lt {r : Nat → Int64} : ∀ F, 0 < F → p_bs r F < F
  | 0, h => by omega
  | 1, _ => by rw [p_bs1]; omega
  | F + 2, _ => by
    have h := p_bs_lt (r := r) (F + 1) (by omega)
    rw [p_bs]
    split <;> omega
theorem p_bs_co {r q : Nat → Int64} : ∀ F, (∀ i, i < F → r i = q i) → p_bs r F = p_bs q F
  | 0, _ => rfl
  | F + 1, h => by
    have h1 := p_bs_co F (fun i hi => h i (by omega))
    by_cases hF : F = 0
    · subst hF
      rw [p_bs1, p_bs1]
    · simp only [p_bs]
      rw [h1, h F (by omega)]
      have h2 := p_bs_lt (r := q) F (by omega)
      rw [h (p_bs q F) (by omega)]
/-- two states of the giving agree on the first F -/
def p_ag (F : Nat) (a b : (Nat → Int32) × (Nat → Int64)) : Prop := ∀ i, i < F → a.1 i = b.1 i ∧ a.2 i = b.2 i
theorem p_ag_gv {F : Nat} (hF : 0 < F) {g g' : Nat → Int32} {r r' : Nat → Int64} (h : p_ag F (g, r) (g', r')) : p_bs r F = p_bs r' F ∧ p_ag F (upd g (p_bs r F) (g (p_bs r F) + 1), vp_updL r (p_bs r F) (-1)) (upd g' (p_bs r' F) (g' (p_bs r' F) + 1), vp_updL r' (p_bs r' F) (-1)) := by
  have e := p_bs_co (r := r) (q := r') F (fun i hi => (h i hi).2)
  refine ⟨e, fun i hi => ?_⟩
  have hb := p_bs_lt (r := r') F hF
  rw [e]
  have h1 := h i hi
  have h2 := h _ hb
  dsimp only at h1 h2
  simp only [upd, vp_updL, h1.1, h1.2, h2.1]
  exact ⟨trivial, trivial⟩
theorem p_it_co {F : Nat} (hF : 0 < F) {g g' : Nat → Int32} {r r' : Nat → Int64} (h : p_ag F (g, r) (g', r')) : ∀ c, p_ag F (p_it F g r c) (p_it F g' r' c)
  | 0 => h
  | c + 1 => by
    have h1 := p_it_co hF h c
    simp only [p_it]
    exact (p_ag_gv hF h1).2
theorem p_all_co {a b : Nat → Int32} : ∀ F, (∀ i, i < F → a i = b i) → p_all a F = p_all b F
  | 0, _ => rfl
  | F + 1, h => by simp only [p_all]; rw [p_all_co F (fun i hi => h i (by omega)), h F (by omega)]
theorem p_lf_co {am : Int32} {al : Int64} {a b : Nat → Int32} : ∀ F, (∀ i, i < F → a i = b i) → p_lf am a al F = p_lf am b al F
  | 0, _ => rfl
  | F + 1, h => by simp only [p_lf, p_g0]; rw [p_lf_co F (fun i hi => h i (by omega)), h F (by omega)]
theorem p_sh_co {am : Int32} {a b : Nat → Int32} {F : Nat} (hF : 0 < F) (h : ∀ i, i < F → a i = b i) {i : Nat} (hi : i < F) : p_sh am a F i = p_sh am b F i := by
  unfold p_sh
  rw [p_all_co F h, p_lf_co F h]
  refine (p_it_co hF (fun j hj => ?_) _ i hi).1
  simp only [p_g0, p_r0, h j hj]
  exact ⟨trivial, trivial⟩
theorem M_gR {n F : Nat} {μ : hb_m} (hF : rd μ 1 0 = nI F) (h0 : 1 ≤ F) (h8 : F ≤ 8) (hn : 2147483648 ≤ n) : fX6_greatestRest n μ = some (nI (p_bs (rL μ 7) F), μ) := by
  unfold fX6_greatestRest
  have hb1 : p_bs (rL μ 7) 1 = 0 := p_bs1
  obtain ⟨⟨a, μ'⟩, ⟨h1, h2⟩, e⟩ := lo (S := Int32 × hb_m) (fun f i s => lX6_greatestRest_4 n (fun x2_4 x1_4 m4 => some (x1_4, m4)) f (nI i) s.1 s.2) F (fun s => some (s.1, s.2)) (fun i s => s.1 = nI (p_bs (rL μ 7) i) ∧ s.2 = μ ∧ 1 ≤ i)
    (fun f s hI => by
      obtain ⟨a, μ'⟩ := s
      obtain ⟨h1, rfl, h3⟩ := hI
      rw [lX6_greatestRest_4]
      simp (disch := omega) only [li0, ib_ok, cl_ok, hF, le_ok, Nat.le_refl, if_true])
    (fun f i s hi hI => by
      obtain ⟨a, μ'⟩ := s
      obtain ⟨h1, rfl, h3⟩ := hI
      dsimp only at h1 ⊢
      subst h1
      have hb := p_bs_lt (r := rL μ' 7) i (by omega)
      refine ⟨(nI (p_bs (rL μ' 7) (i + 1)), μ'), ⟨rfl, rfl, by omega⟩, ?_⟩
      rw [lX6_greatestRest_4]
      simp (disch := omega) only [li1, nI_add, p_bs]
      rw [show (0 : Int32).toNatClampNeg = 0 from rfl, hF, show ib 0 415 = true from by decide, if_pos rfl, if_neg (by rw [le_ok (by omega) (by omega)]; omega), ib_ok (by omega) (by omega), ib_ok (by omega) (by omega), if_pos rfl, if_pos rfl, cl_ok (by omega), cl_ok (by omega)]
      split <;> rfl)
    n 1 (0, μ) (by omega) (by omega) ⟨by rw [hb1]; rfl, rfl, by omega⟩
  refine Eq.trans e ?_
  rw [h1, h2.1]
theorem M_shA {n F : Nat} {am : Int32} {μ : hb_m} {k : Int32 → Int64 → hb_m → Option hb_m} (hF : rd μ 1 0 = nI F) (h8 : F ≤ 8) (hn : 2147483648 ≤ n) : lX6_shares_5 n am k n 0 0 μ = k (nI F) (p_all (rd μ 5) F) μ := by
  obtain ⟨⟨a, μ'⟩, ⟨h1, h2⟩, e⟩ := lo (S := Int64 × hb_m) (fun f i s => lX6_shares_5 n am k f (nI i) s.1 s.2) F (fun s => k (nI F) s.1 s.2) (fun i s => s.1 = p_all (rd μ 5) i ∧ s.2 = μ)
    (fun f s hI => by
      obtain ⟨a, μ'⟩ := s
      obtain ⟨h1, rfl⟩ := hI
      rw [lX6_shares_5]
      simp (disch := omega) only [li0, ib_ok, cl_ok, hF, le_ok, Nat.le_refl, if_true])
    (fun f i s hi hI => by
      obtain ⟨a, μ'⟩ := s
      obtain ⟨h1, rfl⟩ := hI
      dsimp only at h1 ⊢
      subst h1
      refine ⟨(p_all (rd μ' 5) (i + 1), μ'), ⟨rfl, rfl⟩, ?_⟩
      rw [lX6_shares_5]
      simp (disch := omega) only [li0, li1, ib_ok, cl_ok, hF, le_ok, if_true, nI_add, p_all]
      rw [if_neg (by omega)])
    n 0 (0, μ) (by omega) (by omega) ⟨rfl, rfl⟩
  refine Eq.trans e ?_
  rw [h1, h2]

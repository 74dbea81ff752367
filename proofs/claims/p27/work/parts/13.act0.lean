/-! ACTS: refused, nothing is changed; else they are recorded. JJ: what refusals need of the state -/
theorem snd_c {ρ : Nat → Int32} {F D Y d : Nat} (h : Inv ρ F D Y) (hd : d < D) : ∃ v w, ρ (32 + 5 * d) = nI v ∧ 1 ≤ v ∧ v ≤ 20 ∧ p_snd ρ d = nI w ∧ w ≤ 9999 * v := by
  obtain ⟨-, -, -, -, -, -, c2, c3, -⟩ := h
  obtain ⟨v, f1, f0, f2⟩ := rg_get (c2 d hd)
  obtain ⟨g1, g2, g3⟩ := c3 d hd
  obtain ⟨e, q1, -, q2⟩ := rg_get g1
  obtain ⟨b, q3, -, q4⟩ := rg_get g2
  rw [q1, q3, cl_ok (by omega), cl_ok (by omega)] at g3
  refine ⟨v, (e - b) * v, f1, f0, f2, ?_, ?_⟩
  · unfold p_snd
    rw [q1, q3, f1, sub_ok g3, pk_mul]
  · exact Nat.mul_le_mul_right v (by omega)
theorem sUF {ρ : Nat → Int32} {F D Y : Nat} (h : Inv ρ F D Y) : ∀ n, n ≤ D → ∃ U S, sI (fun d => if ρ (35 + 5 * d) = 0 then p_snd ρ d else 0) n = nI U ∧ sI (fun d => if ρ (35 + 5 * d) = 0 then ρ (32 + 5 * d) else 0) n = nI S ∧ U ≤ 9999 * S ∧ S ≤ 20 * n
  | 0, _ => ⟨0, 0, rfl, rfl, by omega, by omega⟩
  | n + 1, hn => by
    obtain ⟨U, S, a1, a2, a3, a4⟩ := sUF h n (by omega)
    obtain ⟨v, w, b1, -, b2, b3, b4⟩ := snd_c h (show n < D by omega)
    simp only [sI]
    rw [a1, a2]
    by_cases e : ρ (35 + 5 * n) = 0
    · rw [if_pos e, if_pos e, b1, b3, nI_add, nI_add]
      exact ⟨U + w, S + v, rfl, rfl, by omega, by omega⟩
    · rw [if_neg e, if_neg e, Int32.add_zero, Int32.add_zero]
      exact ⟨U, S, rfl, rfl, a3, by omega⟩
theorem est_c {ρ : Nat → Int32} {F D Y d : Nat} (h : Inv ρ F D Y) (hd : d < D) : ∃ w, p_est ρ D d = nI w ∧ w ≤ 199980 := by
  have hD := h.1.2.1
  obtain ⟨U, S, eu, ef, hu, hf⟩ := sUF h D (Nat.le_refl _)
  obtain ⟨v, w, f1, -, f2, -, -⟩ := snd_c h hd
  unfold p_est p_sU p_sF
  rw [eu, ef]
  by_cases h0 : S = 0
  · subst h0
    exact ⟨0, if_pos rfl, by omega⟩
  · rw [if_neg (by rw [li0, eq_ok (by omega) (by omega)]; exact h0)]
    have hm : v * U ≤ 20 * (9999 * 400) := Nat.mul_le_mul f2 (by omega)
    refine ⟨v * U / S, ?_, ?_⟩
    · rw [f1, pk_mul, div_ok (by omega) (by omega) (by omega)]
    · have h1 : v * U ≤ 20 * (9999 * S) := Nat.mul_le_mul f2 hu
      refine Nat.div_le_of_le_mul (Nat.le_trans h1 ?_)
      rw [← Nat.mul_assoc, Nat.mul_comm (20 * 9999) S]
      exact Nat.le_refl _
theorem uN_c {ρ : Nat → Int32} {F D d : Nat} (h : Inv ρ F D 0) (hd : d < D) : ∃ w, p_uN ρ D 0 d = nI w ∧ w ≤ 199980 := by
  unfold p_uN
  by_cases h0 : ρ (35 + 5 * d) = 0
  · rw [if_pos h0]
    obtain ⟨v, w, -, -, b2, b3, b4⟩ := snd_c h hd
    exact ⟨w, b3, by omega⟩
  · rw [if_neg h0, if_neg (by omega)]
    exact est_c h hd
def JJ (c : Nat) (μ : hb_m) : Prop := (1 ≤ rd μ 0 0 ∧ 1 ≤ rd μ 8 2 ∧ (rd μ 0 10 = 0 ∨ (1 ≤ rd μ 14 2 ∧ 0 ≤ rd μ 17 0 ∧ rd μ 17 0 ≤ 199980))) ∧ (0 ≤ rd μ 8 0 ∧ rd μ 8 0 ≤ nI c) ∧ (0 ≤ rd μ 8 1 ∧ rd μ 8 1 ≤ 100) ∧ (0 ≤ rd μ 0 7 ∧ rd μ 0 7 ≤ 1)
def jk (k i : Nat) : Prop := (k = 0 ∧ (i = 0 ∨ i = 7 ∨ i = 10)) ∨ (k = 8 ∧ i ≤ 2) ∨ (k = 14 ∧ i = 2) ∨ (k = 17 ∧ i = 0)
theorem JJ_g {c : Nat} {μ μ' : hb_m} (h : JJ c μ) (a : 1 ≤ rd μ' 0 0) (b : 1 ≤ rd μ' 8 2) (d : (rd μ' 0 10 = rd μ 0 10 ∧ rd μ' 14 2 = rd μ 14 2 ∧ (rd μ' 17 0 = rd μ 17 0 ∨ (0 ≤ rd μ' 17 0 ∧ rd μ' 17 0 ≤ 199980))) ∨ (1 ≤ rd μ' 14 2 ∧ 0 ≤ rd μ' 17 0 ∧ rd μ' 17 0 ≤ 199980)) (e : rd μ' 8 0 = rd μ 8 0 ∨ (0 ≤ rd μ' 8 0 ∧ rd μ' 8 0 ≤ nI c)) (f : rd μ' 8 1 = rd μ 8 1 ∨ (0 ≤ rd μ' 8 1 ∧ rd μ' 8 1 ≤ 100)) (g : rd μ' 0 7 = rd μ 0 7 ∨ (0 ≤ rd μ' 0 7 ∧ rd μ' 0 7 ≤ 1)) : JJ c μ' := by
  refine ⟨⟨a, b, ?_⟩, ?_, ?_, ?_⟩
  · rcases d with ⟨d1, d2, d3⟩ | d
    · rw [d1, d2]
      rcases h.1.2.2 with q | ⟨q1, q2⟩
      · exact Or.inl q
      · refine Or.inr ⟨q1, ?_⟩
        rcases d3 with d3 | d3
        · rw [d3]; exact q2
        · exact d3
    · exact Or.inr d
  · rcases e with e | e
    · rw [e]; exact h.2.1
    · exact e
  · rcases f with e | e
    · rw [e]; exact h.2.2.1
    · exact e
  · rcases g with e | e
    · rw [e]; exact h.2.2.2
    · exact e
theorem JJ_eq {c : Nat} {μ μ' : hb_m} (h : JJ c μ) (e : ∀ k i, jk k i → rd μ' k i = rd μ k i) : JJ c μ' := by
  unfold jk at e
  exact JJ_g h (by rw [e 0 0 (by omega)]; exact h.1.1) (by rw [e 8 2 (by omega)]; exact h.1.2.1) (Or.inl ⟨e 0 10 (by omega), e 14 2 (by omega), Or.inl (e 17 0 (by omega))⟩) (Or.inl (e 8 0 (by omega))) (Or.inl (e 8 1 (by omega))) (Or.inl (e 0 7 (by omega)))
theorem JJ_QF {c : Nat} {μ μ' : hb_m} (h : JJ c μ) (e : QF μ μ') : JJ c μ' := JJ_eq h (fun k i hk => e.2 k i (by unfold jk at hk; omega) (by unfold jk at hk; omega))
theorem JJ_mo {c d : Nat} {μ : hb_m} (h : JJ c μ) (hcd : nI c ≤ nI d) : JJ d μ := ⟨h.1, ⟨h.2.1.1, Int32.le_trans h.2.1.2 hcd⟩, h.2.2⟩
theorem rg_pos {x : Int32} (h : ∃ w, x = nI w ∧ w ≤ 79992000) : 0 ≤ x := by
  obtain ⟨w, rfl, hw⟩ := h
  exact nI_pos' (by omega)
theorem s01_pos {f : Nat → Int32} {D : Nat} (hD : D ≤ 20) (h : ∀ d, d < D → f d = 0 ∨ f d = 1) : 0 ≤ sI f D := by
  have h1 : sI f D = nI (sN (fun d => (f d).toNatClampNeg) D) := sI_nI D (fun d hd => by rcases h d hd with e | e <;> rw [e] <;> rfl)
  have h2 : sN (fun d => (f d).toNatClampNeg) D ≤ D * 1 := sN_le D (fun d hd => by rcases h d hd with e | e <;> rw [e] <;> decide)
  rw [h1]
  exact nI_pos' (by omega)
theorem wA_pos {m : Nat} (h : m ≤ 11) : 0 ≤ p_wA m := by
  rcases (show m = 0 ∨ m = 1 ∨ m = 2 ∨ m = 3 ∨ m = 4 ∨ m = 5 ∨ m = 6 ∨ m = 7 ∨ m = 8 ∨ m = 9 ∨ m = 10 ∨ m = 11 by omega) with rfl | rfl | rfl | rfl | rfl | rfl | rfl | rfl | rfl | rfl | rfl | rfl <;> decide
def Ac (n c : Nat) (μ : hb_m) (x y : Option (Int32 × hb_m)) : Prop := ∃ r μ' ν', x = some (r, μ') ∧ y = some (r, ν') ∧ RR μ' ν' ∧ ((r < 0 ∧ μ' = μ) ∨ (0 ≤ r ∧ (∃ μ1, fX1_remember n 0 μ = some μ1 ∧ fX μ1 μ') ∧ (JJ c μ → JJ c μ')))
theorem Ac_op {n c : Nat} {μ : hb_m} {x y : Option (Int32 × hb_m)} (h : Ac n c μ x y) : Op x y := by
  obtain ⟨r, μ', ν', e1, e2, e3, -⟩ := h
  exact ⟨r, μ', ν', e1, e2, e3⟩
theorem ac_no {n c : Nat} {μ ν : hb_m} {x y : Int32} (e : x = y) (h : RR μ ν) (hx : x < 0) : Ac n c μ (some (x, μ)) (some (y, ν)) := ⟨x, μ, ν, rfl, by rw [e], h, Or.inl ⟨hx, rfl⟩⟩
theorem ac_ok {n c : Nat} {μ μ1 μ' ν' : hb_m} {x y : Int32} (e : x = y) (h : RR μ' ν') (hx : 0 ≤ x) (e1 : fX1_remember n 0 μ = some μ1) (x1 : ∀ k i, k < 76 ∨ 230 ≤ k → rd μ1 k i = rd μ k i) (f : fX μ1 μ') (j : JJ c μ1 → JJ c μ') : Ac n c μ (some (x, μ')) (some (y, ν')) := ⟨x, μ', ν', rfl, by rw [e], h, Or.inr ⟨hx, ⟨μ1, e1, f⟩, fun q => j (JJ_eq q (fun k i hk => x1 k i (by unfold jk at hk; omega)))⟩⟩

/-! THE CLASS, PURE: units; bounds of units -/
theorem rg_get {x : Int32} {lo hi : Nat} (h : rg x lo hi) : ∃ v, x = nI v ∧ lo ≤ v ∧ v ≤ hi := ⟨_, h⟩
theorem snd_b {ρ : Nat → Int32} {F D Y d : Nat} (h : Inv ρ F D Y) (hd : d < D) : ∃ w, p_snd ρ d = nI w ∧ w ≤ 199980 := by
  obtain ⟨-, -, -, -, -, -, c2, c3, -⟩ := h
  obtain ⟨h1, h2, hb⟩ := c3 d hd
  obtain ⟨e, e1, -, e2⟩ := rg_get h1
  obtain ⟨b, b1, -, b2⟩ := rg_get h2
  obtain ⟨f, f1, -, f2⟩ := rg_get (c2 d hd)
  rw [e1, b1, cl_ok (by omega), cl_ok (by omega)] at hb
  refine ⟨(e - b) * f, ?_, ?_⟩
  · unfold p_snd
    rw [e1, b1, f1, sub_ok hb, pk_mul]
  · have := Nat.mul_le_mul (show e - b ≤ 9999 by omega) f2
    omega
theorem sU_b {ρ : Nat → Int32} {F D Y : Nat} (h : Inv ρ F D Y) : ∃ w, p_sU ρ D = nI w ∧ w ≤ 3999600 := by
  have hD := h.1.2.1
  have hw : ∀ d, d < D → ∃ w, (if ρ (35 + 5 * d) = 0 then p_snd ρ d else 0) = nI w ∧ w ≤ 199980 := fun d hd => by
    by_cases h0 : ρ (35 + 5 * d) = 0
    · rw [if_pos h0]; exact snd_b h hd
    · rw [if_neg h0]; exact ⟨0, rfl, by omega⟩
  refine ⟨sN (fun d => (if ρ (35 + 5 * d) = 0 then p_snd ρ d else 0).toNatClampNeg) D, ?_, ?_⟩
  · refine sI_nI D (fun d hd => ?_)
    obtain ⟨w, e, hw1⟩ := hw d hd
    rw [e, cl_ok (by omega)]
  · have := sN_le (g := fun d => (if ρ (35 + 5 * d) = 0 then p_snd ρ d else 0).toNatClampNeg) (m := 199980) D (fun d hd => by
      obtain ⟨w, e, hw1⟩ := hw d hd
      rw [e, cl_ok (by omega)]
      exact hw1)
    omega
theorem sF_b {ρ : Nat → Int32} {F D Y : Nat} (h : Inv ρ F D Y) : ∃ w, p_sF ρ D = nI w ∧ w ≤ 400 := by
  have hD := h.1.2.1
  have hw : ∀ d, d < D → ∃ w, (if ρ (35 + 5 * d) = 0 then ρ (32 + 5 * d) else 0) = nI w ∧ w ≤ 20 := fun d hd => by
    obtain ⟨-, -, -, -, -, -, c2, -⟩ := h
    by_cases h0 : ρ (35 + 5 * d) = 0
    · rw [if_pos h0]; exact ⟨_, (c2 d hd).1, (c2 d hd).2.2⟩
    · rw [if_neg h0]; exact ⟨0, rfl, by omega⟩
  refine ⟨sN (fun d => (if ρ (35 + 5 * d) = 0 then ρ (32 + 5 * d) else 0).toNatClampNeg) D, ?_, ?_⟩
  · refine sI_nI D (fun d hd => ?_)
    obtain ⟨w, e, hw1⟩ := hw d hd
    rw [e, cl_ok (by omega)]
  · have := sN_le (g := fun d => (if ρ (35 + 5 * d) = 0 then ρ (32 + 5 * d) else 0).toNatClampNeg) (m := 20) D (fun d hd => by
      obtain ⟨w, e, hw1⟩ := hw d hd
      rw [e, cl_ok (by omega)]
      exact hw1)
    omega
theorem est_b {ρ : Nat → Int32} {F D Y d : Nat} (h : Inv ρ F D Y) (hd : d < D) : ∃ w, p_est ρ D d = nI w ∧ w ≤ 79992000 := by
  obtain ⟨u, eu, hu⟩ := sU_b h
  obtain ⟨f, ef, hf⟩ := sF_b h
  obtain ⟨-, -, -, -, -, -, c2, -⟩ := h
  obtain ⟨v, f1, -, f2⟩ := rg_get (c2 d hd)
  unfold p_est
  rw [eu, ef]
  by_cases h0 : f = 0
  · subst h0
    exact ⟨0, if_pos rfl, by omega⟩
  · rw [if_neg (by rw [li0, eq_ok (by omega) (by omega)]; exact h0)]
    have hm := Nat.mul_le_mul f2 hu
    refine ⟨v * u / f, ?_, ?_⟩
    · rw [f1, pk_mul, div_ok (by omega) (by omega) (by omega)]
    · have := Nat.div_le_self (v * u) f
      omega
theorem uN_b {ρ : Nat → Int32} {F D Y d : Nat} (h : Inv ρ F D Y) (hd : d < D) : ∃ w, p_uN ρ D Y d = nI w ∧ w ≤ 79992000 := by
  unfold p_uN
  by_cases h0 : ρ (35 + 5 * d) = 0
  · rw [if_pos h0]
    obtain ⟨w, e, hw⟩ := snd_b h hd
    exact ⟨w, e, by omega⟩
  · rw [if_neg h0]
    by_cases h1 : ρ 5 = 1 ∧ 0 < Y ∧ nI d < ρ (62 + 71 * Y)
    · rw [if_pos h1]
      have hD := h.1.2.1
      obtain ⟨-, -, -, -, -, -, -, -, -, y1, -⟩ := h
      obtain ⟨E, e1, e2, e3⟩ := y1 (Y - 1) (by omega)
      rw [show 133 + 71 * (Y - 1) = 62 + 71 * Y by omega] at e2
      rw [e2, lt_ok (by omega) (by omega)] at h1
      have := e3 d h1.2.2
      rw [show 134 + 71 * (Y - 1) + d = 63 + 71 * Y + d by omega] at this
      exact ⟨_, this.1, this.2.2⟩
    · rw [if_neg h1]
      exact est_b h hd
theorem sN_add (a b : Nat → Nat) : ∀ n, sN (fun i => a i + b i) n = sN a n + sN b n
  | 0 => rfl
  | n + 1 => by simp only [sN]; rw [sN_add a b n]; omega
theorem sN_one (w j : Nat) : ∀ n, sN (fun i => if j = i then w else 0) n = if j < n then w else 0
  | 0 => by simp [sN]
  | n + 1 => by
    simp only [sN]
    rw [sN_one w j n]
    by_cases h : j < n
    · rw [if_pos h, if_neg (by omega), if_pos (by omega)]; omega
    · by_cases h2 : j = n
      · rw [if_neg h, if_pos h2, if_pos (by omega)]; omega
      · rw [if_neg h, if_neg h2, if_neg (by omega)]
theorem sN_swap (w at_ : Nat → Nat) (F : Nat) : ∀ D, (∀ d, d < D → at_ d < F) → sN (fun f => sN (fun d => if at_ d = f then w d else 0) D) F = sN w D
  | 0, _ => by
    have : ∀ n, sN (fun _ => 0) n = 0 := fun n => by
      have := sN_le (g := fun _ => 0) (m := 0) n (fun _ _ => Nat.le_refl _)
      omega
    simp only [sN]
    exact this F
  | D + 1, h => by
    simp only [sN]
    rw [sN_add, sN_swap w at_ F D (fun d hd => h d (by omega)), sN_one, if_pos (h D (by omega))]
theorem fU_N {u ρ : Nat → Int32} {w a : Nat → Nat} {D f : Nat} (hf : f < 8) (h : ∀ d, d < D → u d = nI (w d) ∧ ρ (31 + 5 * d) = nI (a d) ∧ a d < 8) : p_fU u ρ D f = nI (sN (fun d => if a d = f then w d else 0) D) := by
  refine sI_nI D (fun d hd => ?_)
  obtain ⟨h1, h2, h3⟩ := h d hd
  rw [h1, h2]
  by_cases e : a d = f
  · rw [if_pos (by rw [e]), if_pos e]
  · rw [if_neg (fun q => e ((nI_eq (by omega) (by omega)).mp q)), if_neg e]
    rfl
theorem fU_all {u ρ : Nat → Int32} {F D : Nat} (hF : F ≤ 8) (hD : D ≤ 20) (hu : ∀ d, d < D → ∃ w, u d = nI w ∧ w ≤ 79992000) (hat : ∀ d, d < D → ∃ a, a < F ∧ ρ (31 + 5 * d) = nI a) : gn (p_fU u ρ D) F ∧ sI (p_fU u ρ D) F = sI u D := by
  have hw : ∀ d, d < D → u d = nI (u d).toNatClampNeg ∧ ρ (31 + 5 * d) = nI (ρ (31 + 5 * d)).toNatClampNeg ∧ (ρ (31 + 5 * d)).toNatClampNeg < 8 := fun d hd => by
    obtain ⟨w, e, h1⟩ := hu d hd
    obtain ⟨a, h2, e2⟩ := hat d hd
    rw [e, e2, cl_ok (by omega), cl_ok (by omega)]
    exact ⟨rfl, rfl, by omega⟩
  have h1 : ∀ f, f < F → p_fU u ρ D f = nI (sN (fun d => if (ρ (31 + 5 * d)).toNatClampNeg = f then (u d).toNatClampNeg else 0) D) := fun f hf => fU_N (w := fun d => (u d).toNatClampNeg) (a := fun d => (ρ (31 + 5 * d)).toNatClampNeg) (by omega) hw
  have h2 := sN_swap (fun d => (u d).toNatClampNeg) (fun d => (ρ (31 + 5 * d)).toNatClampNeg) F D (fun d hd => by
    obtain ⟨a, h2, e2⟩ := hat d hd
    rw [e2, cl_ok (by omega)]
    exact h2)
  have h3 := sN_le (g := fun d => (u d).toNatClampNeg) (m := 79992000) D (fun d hd => by
    obtain ⟨w, e, h1⟩ := hu d hd
    rw [e, cl_ok (by omega)]
    exact h1)
  refine ⟨⟨_, h1, ?_⟩, ?_⟩
  · rw [h2]
    omega
  · rw [sI_nI F h1, h2]
    exact (sI_nI D (fun d hd => (hw d hd).1)).symm

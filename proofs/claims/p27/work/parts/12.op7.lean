/-! BOTH SIDES: who pays most -/
def cN (p : Nat → Bool) : Nat → Nat
  | 0 => 0
  | n + 1 => cN p n + if p n = true then 1 else 0
theorem cN_le {p q : Nat → Bool} : ∀ n, (∀ k, k < n → p k = true → q k = true) → cN p n ≤ cN q n
  | 0, _ => Nat.le_refl _
  | n + 1, h => by
    have h1 := cN_le (p := p) (q := q) n (fun k hk => h k (by omega))
    simp only [cN]
    by_cases e : p n = true
    · rw [if_pos e, if_pos (h n (by omega) e)]; omega
    · rw [if_neg e]; omega
theorem cN_lt {p q : Nat → Bool} : ∀ n, (∀ k, k < n → p k = true → q k = true) → (∃ j, j < n ∧ q j = true ∧ ¬ p j = true) → cN p n < cN q n
  | 0, _, ⟨j, hj, _⟩ => by omega
  | n + 1, h, ⟨j, hj, h1, h2⟩ => by
    simp only [cN]
    by_cases e : j = n
    · subst e
      have h3 := cN_le (p := p) (q := q) j (fun k hk => h k (by omega))
      rw [if_neg h2, if_pos h1]; omega
    · have h3 := cN_lt (p := p) (q := q) n (fun k hk => h k (by omega)) ⟨j, by omega, h1, h2⟩
      by_cases e2 : p n = true
      · rw [if_pos e2, if_pos (h n (by omega) e2)]; omega
      · rw [if_neg e2]; omega
theorem cN_n {p : Nat → Bool} : ∀ n, cN p n ≤ n
  | 0 => Nat.le_refl _
  | n + 1 => by
    have := cN_n (p := p) n
    simp only [cN]
    split <;> omega
def bf (u : Nat → Int32) (f k : Nat) : Bool := decide (u f < u k) || (decide (u k = u f) && decide (k < f))
theorem bf_iff {u : Nat → Int32} {f k : Nat} : bf u f k = true ↔ ((u f).toInt < (u k).toInt ∨ ((u k).toInt = (u f).toInt ∧ k < f)) := by
  simp only [bf, Bool.or_eq_true, Bool.and_eq_true, decide_eq_true_eq, Int32.lt_iff_toInt_lt, Int32.toInt_inj]
theorem bf_one {u : Nat → Int32} {F f g : Nat} (hf : f < F) (hg : g < F) (h : cN (bf u f) F = cN (bf u g) F) : f = g := by
  have key : ∀ a b, a < F → bf u b a = true → cN (bf u a) F < cN (bf u b) F := by
    intro a b ha hab
    refine cN_lt F (fun k _ hk => ?_) ⟨a, ha, hab, ?_⟩
    · rw [bf_iff] at hab hk ⊢
      omega
    · rw [bf_iff]
      omega
  by_cases e : f = g
  · exact e
  · by_cases h1 : bf u f g = true
    · have := key g f hg h1
      omega
    · have h2 : bf u g f = true := by
        rw [bf_iff] at h1 ⊢
        omega
      have := key f g hf h2
      omega
theorem bf_co {u v : Nat → Int32} {F f : Nat} (hf : f < F) (h : ∀ i, i < F → u i = v i) : ∀ n, n ≤ F → cN (bf u f) n = cN (bf v f) n
  | 0, _ => rfl
  | n + 1, hn => by
    simp only [cN]
    rw [bf_co hf h n (by omega)]
    have : bf u f n = bf v f n := by
      unfold bf
      rw [h f hf, h n (by omega)]
    rw [this]
theorem X_fA {n F f : Nat} {μ : hb_m} (hf : f < F) (h8 : F ≤ 8) (hn : 2147483648 ≤ n) : fX0_flatsAheadOf n (nI f) (nI F) μ = some (nI (cN (bf (rd μ 238) f) F), μ) := by
  unfold fX0_flatsAheadOf
  obtain ⟨⟨a, μ'⟩, ⟨h1, h2⟩, e⟩ := lo (S := Int32 × hb_m) (fun g i s => lX0_flatsAheadOf_5 n (nI f) (nI F) (fun x4_5 x3_5 m5 => some (x3_5, m5)) g (nI i) s.1 s.2) F (fun s => some (s.1, s.2)) (fun i s => s.1 = nI (cN (bf (rd μ 238) f) i) ∧ s.2 = μ)
    (fun g s hI => by
      rw [lX0_flatsAheadOf_5]
      rw [if_pos (by rw [le_ok (by omega) (by omega)]; omega)])
    (fun g i s hi hI => by
      obtain ⟨a, μ'⟩ := s
      obtain ⟨h1, rfl⟩ := hI
      dsimp only at h1 ⊢
      subst h1
      refine ⟨(nI (cN (bf (rd μ' 238) f) (i + 1)), μ'), ⟨rfl, rfl⟩, ?_⟩
      rw [lX0_flatsAheadOf_5]
      rw [if_neg (by rw [le_ok (by omega) (by omega)]; omega), ib_ok (show i < 8 by omega) (by omega), ib_ok (show f < 8 by omega) (by omega), cl_ok (show i < 2147483648 by omega), cl_ok (show f < 2147483648 by omega), li1, nI_add, nI_add]
      simp only [if_true, cN, bf]
      by_cases c1 : rd μ' 238 i = rd μ' 238 f
      · have c2 : ¬ rd μ' 238 f < rd μ' 238 i := by rw [c1]; exact Int32.lt_irrefl
        by_cases c3 : i < f
        · have c4 : ¬ nI f ≤ nI i := by rw [le_ok (by omega) (by omega)]; omega
          simp only [c1, c3, c4, if_true, if_false, ite_self, decide_true, Bool.and_self, Bool.or_true]
        · have c4 : nI f ≤ nI i := by rw [le_ok (by omega) (by omega)]; omega
          simp [c1, c3, c4]
      · by_cases c2 : rd μ' 238 f < rd μ' 238 i
        · simp [c1, c2]
        · simp [c1, c2])
    n 0 (0, μ) (by omega) (by omega) ⟨rfl, rfl⟩
  refine Eq.trans e ?_
  rw [h1, h2]
theorem M_fA {n F f : Nat} {p v2 : Int32} {ν : hb_m} {k : Int32 → Int32 → hb_m → Option (Int32 × hb_m)} (hF : rd ν 1 0 = nI F) (hf : f < F) (h8 : F ≤ 8) (hn : 2147483648 ≤ n) : lX6_greatest_38 n p (nI f) v2 k n 0 0 ν = k (nI F) (nI (cN (bf (rd ν 10) f) F)) ν := by
  obtain ⟨⟨a, μ'⟩, ⟨h1, h2⟩, e⟩ := lo (S := Int32 × hb_m) (fun g i s => lX6_greatest_38 n p (nI f) v2 k g (nI i) s.1 s.2) F (fun s => k (nI F) s.1 s.2) (fun i s => s.1 = nI (cN (bf (rd ν 10) f) i) ∧ s.2 = ν)
    (fun g s hI => by
      obtain ⟨a, μ'⟩ := s
      obtain ⟨h1, rfl⟩ := hI
      rw [lX6_greatest_38]
      dsimp only
      rw [show (0 : Int32).toNatClampNeg = 0 from rfl, hF, show ib 0 415 = true from by decide, if_pos rfl, if_pos (by rw [le_ok (by omega) (by omega)]; omega)])
    (fun g i s hi hI => by
      obtain ⟨a, μ'⟩ := s
      obtain ⟨h1, rfl⟩ := hI
      dsimp only at h1 ⊢
      subst h1
      refine ⟨(nI (cN (bf (rd μ' 10) f) (i + 1)), μ'), ⟨rfl, rfl⟩, ?_⟩
      rw [lX6_greatest_38]
      rw [show (0 : Int32).toNatClampNeg = 0 from rfl, hF, show ib 0 415 = true from by decide, if_pos rfl, if_neg (by rw [le_ok (by omega) (by omega)]; omega), ib_ok (show i < 8 by omega) (by omega), ib_ok (show f < 8 by omega) (by omega), cl_ok (show i < 2147483648 by omega), cl_ok (show f < 2147483648 by omega), li1, nI_add, nI_add, Int32.add_zero]
      simp only [if_true, cN, bf]
      by_cases c1 : rd μ' 10 i = rd μ' 10 f
      · have c2 : ¬ rd μ' 10 f < rd μ' 10 i := by rw [c1]; exact Int32.lt_irrefl
        by_cases c3 : i < f
        · have c4 : ¬ nI f ≤ nI i := by rw [le_ok (by omega) (by omega)]; omega
          simp [c1, c3, c4]
        · have c4 : nI f ≤ nI i := by rw [le_ok (by omega) (by omega)]; omega
          simp [c1, c3, c4]
      · by_cases c2 : rd μ' 10 f < rd μ' 10 i
        · simp [c1, c2]
        · simp [c1, c2])
    n 0 (0, ν) (by omega) (by omega) ⟨rfl, rfl⟩
  refine Eq.trans e ?_
  rw [h1, h2]
theorem Q_greatest {n : Nat} {p : Int32} {μ ν : hb_m} {ga gb : hb_m} (h : RQ ga gb μ ν) (hn : 2147483648 ≤ n) : Oq ga gb (fX5_greatest n p μ) (fX6_greatest n p ν) := by
  obtain ⟨F, D, Y, μ', ν', hi, hr, e1, e2, hR, hr', h1, g1, g2, g3, fx, fm, hk⟩ := Q_open h hn
  have hF8 := hi.1.1
  have hF' : rd ν' 1 0 = nI F := by rw [h1]; exact hi.2.1.1
  unfold fX5_greatest fX6_greatest
  by_cases h0 : 0 ≤ p
  · rw [if_pos h0, if_pos h0, show (4 : Int32).toNatClampNeg = 4 from rfl, show ib 4 415 = true from by decide, if_pos rfl, e1, e2, bv_some, bv_some]
    have hc : ∀ f, f < F → cN (bf (rd μ' 238) f) F = cN (bf (rd ν' 10) f) F := fun f hf => bf_co hf (fun i hi' => (g1 i hi').2) F (Nat.le_refl _)
    by_cases hex : ∃ f, f < F ∧ nI (cN (bf (rd ν' 10) f) F) = p
    · obtain ⟨f0, hf0, ef0⟩ := hex
      have hne : ∀ f, f < F → f ≠ f0 → ¬ nI (cN (bf (rd ν' 10) f) F) = p := by
        intro f hf hne q
        have a1 := cN_n (p := bf (rd ν' 10) f) F
        have a2 := cN_n (p := bf (rd ν' 10) f0) F
        have := (nI_eq (by omega) (by omega)).mp (q.trans ef0.symm)
        exact hne (bf_one hf hf0 this)
      obtain ⟨s, rfl, ex⟩ := lo (S := hb_m) (fun g i s => lX5_greatest_13 n p (fun x2_13 m13 => some (-5, m13)) g (nI i) s) f0 (fun s => some (nI f0, s)) (fun i s => s = μ')
        (fun g s hI => by
          subst hI
          rw [lX5_greatest_13]
          rw [hr'.1.1, if_neg (by rw [le_ok (by omega) (by omega)]; omega), X_fA hf0 hF8 hn, bi_some, hc f0 hf0, if_pos ef0])
        (fun g i s hi' hI => by
          subst hI
          refine ⟨s, rfl, ?_⟩
          rw [lX5_greatest_13]
          rw [hr'.1.1, if_neg (by rw [le_ok (by omega) (by omega)]; omega), X_fA (by omega) hF8 hn, bi_some, hc i (by omega), if_neg (hne i (by omega) (by omega)), li1, nI_add])
        n 0 μ' (by omega) (by omega) rfl
      obtain ⟨⟨a, s2⟩, ⟨i1, i2⟩, ey⟩ := lo (S := Int32 × hb_m) (fun g i s => lX6_greatest_22 n p (fun x3_22 x2_22 m22 => some (x2_22, m22)) g (nI i) s.1 s.2) F (fun s => some (s.1, s.2)) (fun i s => s.1 = (if f0 < i then nI f0 else -5) ∧ s.2 = ν')
        (fun g s hI => by
          obtain ⟨a, s⟩ := s
          obtain ⟨h3, rfl⟩ := hI
          rw [lX6_greatest_22]
          dsimp only
          rw [show (0 : Int32).toNatClampNeg = 0 from rfl, hF', show ib 0 415 = true from by decide, if_pos rfl, if_pos (by rw [le_ok (by omega) (by omega)]; omega)])
        (fun g i s hi' hI => by
          obtain ⟨a, s⟩ := s
          obtain ⟨h3, rfl⟩ := hI
          dsimp only at h3 ⊢
          refine ⟨(if f0 < i + 1 then nI f0 else -5, s), ⟨rfl, rfl⟩, ?_⟩
          rw [lX6_greatest_22]
          rw [show (0 : Int32).toNatClampNeg = 0 from rfl, hF', show ib 0 415 = true from by decide, if_pos rfl, if_neg (by rw [le_ok (by omega) (by omega)]; omega), M_fA hF' hi' hF8 hn, li1, nI_add]
          by_cases hif : i = f0
          · subst hif
            rw [if_pos ef0, if_pos (by omega)]
          · rw [if_neg (hne i hi' hif), h3]
            by_cases hl : f0 < i
            · rw [if_pos hl, if_pos (by omega)]
            · rw [if_neg hl, if_neg (by omega)])
        n 0 (-5, ν') (by omega) (by omega) ⟨by rw [if_neg (by omega)], rfl⟩
      dsimp only at i1 i2 ey
      rw [if_pos hf0] at i1
      subst i1
      subst i2
      exact ⟨_, _, _, ex, ey, hR⟩
    · have hne : ∀ f, f < F → ¬ nI (cN (bf (rd ν' 10) f) F) = p := fun f hf q => hex ⟨f, hf, q⟩
      obtain ⟨s, rfl, ex⟩ := lo (S := hb_m) (fun g i s => lX5_greatest_13 n p (fun x2_13 m13 => some (-5, m13)) g (nI i) s) F (fun s => some (-5, s)) (fun i s => s = μ')
        (fun g s hI => by
          subst hI
          rw [lX5_greatest_13]
          rw [hr'.1.1, if_pos (by rw [le_ok (by omega) (by omega)]; omega)])
        (fun g i s hi' hI => by
          subst hI
          refine ⟨s, rfl, ?_⟩
          rw [lX5_greatest_13]
          rw [hr'.1.1, if_neg (by rw [le_ok (by omega) (by omega)]; omega), X_fA (by omega) hF8 hn, bi_some, hc i (by omega), if_neg (hne i (by omega)), li1, nI_add])
        n 0 μ' (by omega) (by omega) rfl
      obtain ⟨⟨a, s2⟩, ⟨i1, i2⟩, ey⟩ := lo (S := Int32 × hb_m) (fun g i s => lX6_greatest_22 n p (fun x3_22 x2_22 m22 => some (x2_22, m22)) g (nI i) s.1 s.2) F (fun s => some (s.1, s.2)) (fun i s => s.1 = -5 ∧ s.2 = ν')
        (fun g s hI => by
          obtain ⟨a, s⟩ := s
          obtain ⟨h3, rfl⟩ := hI
          rw [lX6_greatest_22]
          dsimp only
          rw [show (0 : Int32).toNatClampNeg = 0 from rfl, hF', show ib 0 415 = true from by decide, if_pos rfl, if_pos (by rw [le_ok (by omega) (by omega)]; omega)])
        (fun g i s hi' hI => by
          obtain ⟨a, s⟩ := s
          obtain ⟨h3, rfl⟩ := hI
          dsimp only at h3 ⊢
          refine ⟨(-5, s), ⟨rfl, rfl⟩, ?_⟩
          rw [lX6_greatest_22]
          rw [show (0 : Int32).toNatClampNeg = 0 from rfl, hF', show ib 0 415 = true from by decide, if_pos rfl, if_neg (by rw [le_ok (by omega) (by omega)]; omega), M_fA hF' hi' hF8 hn, li1, nI_add, if_neg (hne i hi'), h3])
        n 0 (-5, ν') (by omega) (by omega) ⟨rfl, rfl⟩
      dsimp only at i1 i2 ey
      subst i1
      subst i2
      exact ⟨_, _, _, ex, ey, hR⟩
  · rw [if_neg h0, if_neg h0]
    exact oq_mk rfl h

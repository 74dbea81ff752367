/-! THE REFERENCE, PURE: units of flats, tenants -/
def p_fU (u : Nat → Int32) (ρ : Nat → Int32) (D f : Nat) : Int32 := sI (fun d => if ρ (31 + 5 * d) = nI f then u d else 0) D
theorem p_fU_s (u ρ : Nat → Int32) {i a f : Nat} (h : ρ (31 + 5 * i) = nI a) (ha : a < 8) (hf : f < 8) : p_fU u ρ (i + 1) f = if f = a then p_fU u ρ i f + u i else p_fU u ρ i f := by
  simp only [p_fU, sI, h]
  by_cases e : f = a
  · rw [if_pos (by rw [e]), if_pos e]
  · rw [if_neg (fun q => e ((nI_eq (by omega) (by omega)).mp q).symm), if_neg e, Int32.add_zero]
theorem M_z8 {n : Nat} {μ : hb_m} {k : Int32 → hb_m → Option hb_m} (hn : 2147483648 ≤ n) : ∃ μ', lX6_laysUnits_2 n k n 0 μ = k (nI 8) μ' ∧ sx [8] μ μ' ∧ ∀ f, f < 8 → rd μ' 8 f = 0 := by
  obtain ⟨μ', ⟨h2, h3⟩, e⟩ := lo (S := hb_m) (fun f i s => lX6_laysUnits_2 n k f (nI i) s) 8 (fun s => k (nI 8) s) (fun i s => sx [8] μ s ∧ ∀ j, j < i → rd s 8 j = 0)
    (fun f s hI => by
      rw [lX6_laysUnits_2]
      rw [if_pos (by rw [li8, le_ok (by omega) (by omega)]; omega)])
    (fun f i s hi hI => by
      obtain ⟨h2, h3⟩ := hI
      refine ⟨wr s 8 i 0, ⟨sx_tr h2 (sx_wr (by decide)), fun j hj => ?_⟩, ?_⟩
      · by_cases hji : j = i
        · subst hji
          simp only [rd_wr, and_self, if_true]
        · have := h3 j (by omega)
          simp only [rd_wr, hji, and_false, if_false]
          exact this
      · rw [lX6_laysUnits_2]
        rw [if_neg (by rw [li8, le_ok (by omega) (by omega)]; omega), ib_ok (by omega) (by omega), if_pos rfl, cl_ok (by omega), li1, nI_add])
    n 0 μ (by omega) (by omega) ⟨sx_rf, fun j hj => by omega⟩
  exact ⟨μ', e, h2, h3⟩
theorem M_lU {n D Y : Nat} {μ : hb_m} (hD : rd μ 1 1 = nI D) (hD20 : D ≤ 20) (hY : rd μ 1 2 = nI Y) (hY4 : Y ≤ 4) (hat : ∀ d, d < D → ∃ a, a < 8 ∧ rd μ 1 (31 + 5 * d) = nI a) (hn : 2147483648 ≤ n) : ∃ μ', fX6_laysUnits n μ = some μ' ∧ sx [8] μ μ' ∧ ∀ f, f < 8 → rd μ' 8 f = p_fU (p_uN (rd μ 1) D Y) (rd μ 1) D f := by
  unfold fX6_laysUnits
  obtain ⟨μ1, e1, s1, g1⟩ := M_z8 (μ := μ) (k := fun x1_2 m2 => lX6_laysUnits_23 n (fun x1_23 m23 => some m23) n 0 m2) hn
  rw [e1]
  obtain ⟨μ', ⟨h2, h3⟩, e⟩ := lo (S := hb_m) (fun f i s => lX6_laysUnits_23 n (fun x1_23 m23 => some m23) f (nI i) s) D (fun s => some s) (fun i s => sx [8] μ s ∧ ∀ f, f < 8 → rd s 8 f = p_fU (p_uN (rd μ 1) D Y) (rd μ 1) i f)
    (fun f s hI => by
      have hr : rd s 1 = rd μ 1 := funext (hI.1 1 (by decide)).1
      rw [lX6_laysUnits_23]
      rw [show (1 : Int32).toNatClampNeg = 1 from rfl, hr, hD, show ib 1 415 = true from by decide, if_pos rfl, if_pos (by rw [le_ok (by omega) (by omega)]; omega)])
    (fun f i s hi hI => by
      obtain ⟨h2, h3⟩ := hI
      have hr : rd s 1 = rd μ 1 := funext (h2 1 (by decide)).1
      obtain ⟨a, ha, hat'⟩ := hat i hi
      refine ⟨wr s 8 a (rd s 8 a + p_uN (rd μ 1) D Y i), ⟨sx_tr h2 (sx_wr (by decide)), fun f hf => ?_⟩, ?_⟩
      · rw [p_fU_s _ _ hat' ha hf, rd_wr]
        by_cases hfa : f = a
        · subst hfa
          rw [if_pos ⟨rfl, rfl⟩, if_pos rfl, h3 f hf]
        · rw [if_neg (fun q => hfa q.2), if_neg hfa, h3 f hf]
      · have hs1 : rd s 1 1 = nI D := by rw [hr]; exact hD
        have hs2 : rd s 1 2 = nI Y := by rw [hr]; exact hY
        rw [lX6_laysUnits_23]
        rw [show (1 : Int32).toNatClampNeg = 1 from rfl, hs1, show ib 1 415 = true from by decide, if_pos rfl, if_neg (by rw [le_ok (by omega) (by omega)]; omega), li0, M_of (by omega), bi_some, Nat.add_zero, hr, hat', ib_ok ha (by omega), if_pos rfl, M_uN hs1 hD20 hs2 hY4 (by omega) hn, bi_some, if_pos rfl, cl_ok (by omega), li1, nI_add, hr])
    n 0 μ1 (by omega) (by omega) ⟨s1, fun f hf => by rw [g1 f hf]; rfl⟩
  exact ⟨μ', e, h2, h3⟩
theorem M_lOp {n F D Y : Nat} {b : Int32} {μ : hb_m} (hF : rd μ 1 0 = nI F) (h8 : F ≤ 8) (har : ∀ f, f < F → rg (rd μ 1 (7 + 3 * f)) 1 200) (hD : rd μ 1 1 = nI D) (hD20 : D ≤ 20) (hY : rd μ 1 2 = nI Y) (hY4 : Y ≤ 4) (hat : ∀ d, d < D → ∃ a, a < 8 ∧ rd μ 1 (31 + 5 * d) = nI a) (hal : ¬ sI (p_fU (p_uN (rd μ 1) D Y) (rd μ 1) D) F ≤ 0 → ¬ p_all (p_fU (p_uN (rd μ 1) D Y) (rd μ 1) D) F = 0) (hn : 2147483648 ≤ n) : ∃ μ', fX6_laysOpen n b μ = some μ' ∧ sx [5, 6, 7, 8, 9, 10] μ μ' ∧ (∀ i, i < F → rd μ' 9 i = p_bse (rd μ 1) F (rd μ 1 3) b i ∧ rd μ' 10 i = p_usd (rd μ 1) F (p_fU (p_uN (rd μ 1) D Y) (rd μ 1) D) (rd μ 1 3) b i) ∧ ∀ f, f < 8 → rd μ' 8 f = p_fU (p_uN (rd μ 1) D Y) (rd μ 1) D f := by
  unfold fX6_laysOpen
  obtain ⟨μ1, e1, s1, g1⟩ := M_lU hD hD20 hY hY4 hat hn
  rw [e1, bv_some]
  have hr : rd μ1 1 = rd μ 1 := funext (s1 1 (by decide)).1
  have hg : ∀ f, f < F → rd μ1 8 f = p_fU (p_uN (rd μ 1) D Y) (rd μ 1) D f := fun f hf => g1 f (by omega)
  have hs : sI (rd μ1 8) F = sI (p_fU (p_uN (rd μ 1) D Y) (rd μ 1) D) F := sI_co F hg
  have ha : p_all (rd μ1 8) F = p_all (p_fU (p_uN (rd μ 1) D Y) (rd μ 1) D) F := p_all_co F hg
  obtain ⟨μ2, e2, s2, g2⟩ := M_lC (c := rd μ1 1 3) (b := b) (μ := μ1) (F := F) (by rw [hr]; exact hF) h8 (by rw [hr]; exact har) (by rw [hs, ha]; exact hal) hn
  refine ⟨μ2, ?_, sx_tr (sx_mo s1 (by decide)) (sx_mo s2 (by decide)), fun i hi => ?_, fun f hf => by rw [(s2 8 (by decide)).1]; exact g1 f hf⟩
  · rw [show (3 : Int32).toNatClampNeg = 3 from rfl, show ib 3 415 = true from by decide, if_pos rfl, e2, bv_some]
  · have h := g2 i hi
    rw [hr] at h
    refine ⟨h.1, h.2.trans ?_⟩
    unfold p_usd
    rw [hs]
    by_cases h0 : sI (p_fU (p_uN (rd μ 1) D Y) (rd μ 1) D) F ≤ 0
    · rw [if_pos h0, if_pos h0]
    · rw [if_neg h0, if_neg h0]
      exact p_sh_co (by omega) hg hi
def p_fst (bs us : Int32) (mo : Nat) (part : Int32) : Int32 := if mo = 0 then bs + us else bs * nI mo / 12 + us * (if part = -5 then p_wA mo else part) / 1000
theorem M_fst {n f mo : Nat} {part : Int32} {μ : hb_m} (hf : f < 8) (hm : mo ≤ 12) (hn : 2147483648 ≤ n) : fX6_firstOf n (nI f) (nI mo) part μ = some (p_fst (rd μ 9 f) (rd μ 10 f) mo part, μ) := by
  unfold fX6_firstOf p_fst
  rw [ib_ok hf (by omega), cl_ok (by omega), M_wA hm hn, bi_some]
  simp only [if_true]
  by_cases h0 : mo = 0
  · rw [if_pos (by rw [h0]; rfl), if_pos h0]
  · rw [if_neg (by rw [li0, eq_ok (by omega) (by omega)]; exact h0), if_neg h0]
    by_cases h1 : part = -5
    · rw [if_pos h1, if_pos h1]
    · rw [if_neg h1, if_neg h1]
def p_ten (bs us : Int32) (mo : Nat) (part s : Int32) : Int32 := if s = 0 then p_fst bs us mo part else bs + us - p_fst bs us mo part
theorem M_ten {n f mo : Nat} {part s : Int32} {μ : hb_m} (hf : f < 8) (hm : mo ≤ 12) (hn : 2147483648 ≤ n) : fX6_tenantOf n (nI f) s (nI mo) part μ = some (p_ten (rd μ 9 f) (rd μ 10 f) mo part s, μ) := by
  unfold fX6_tenantOf p_ten
  rw [M_fst hf hm hn, bi_some, ib_ok hf (by omega), cl_ok (by omega)]
  simp only [if_true]
  by_cases h0 : s = 0
  · rw [if_pos h0, if_pos h0]
  · rw [if_neg h0, if_neg h0]

/-! THE REFERENCE, PURE: a closed year; rows that are copied; the history -/
def p_oU (ρ : Nat → Int32) (y d : Nat) : Int32 := ρ (134 + 71 * y + d)
theorem M_z8o {n : Nat} {p : Int32} {μ : hb_m} {k : Int32 → hb_m → Option hb_m} (hn : 2147483648 ≤ n) : ∃ μ', lX6_laysOld_2 n p k n 0 μ = k (nI 8) μ' ∧ sx [8] μ μ' ∧ ∀ f, f < 8 → rd μ' 8 f = 0 := by
  obtain ⟨μ', ⟨h2, h3⟩, e⟩ := lo (S := hb_m) (fun f i s => lX6_laysOld_2 n p k f (nI i) s) 8 (fun s => k (nI 8) s) (fun i s => sx [8] μ s ∧ ∀ j, j < i → rd s 8 j = 0)
    (fun f s hI => by
      rw [lX6_laysOld_2]
      rw [if_pos (by rw [li8, le_ok (by omega) (by omega)]; omega)])
    (fun f i s hi hI => by
      obtain ⟨h2, h3⟩ := hI
      refine ⟨wr s 8 i 0, ⟨sx_tr h2 (sx_wr (by decide)), fun j hj => ?_⟩, ?_⟩
      · by_cases hji : j = i
        · subst hji
          simp only [rd_wr, and_self, if_true]
        · have := h3 j (by omega)
          simp only [rd_wr, hji, and_false, if_false]
          exact this
      · rw [lX6_laysOld_2]
        rw [if_neg (by rw [li8, le_ok (by omega) (by omega)]; omega), ib_ok (by omega) (by omega), if_pos rfl, cl_ok (by omega), li1, nI_add])
    n 0 μ (by omega) (by omega) ⟨sx_rf, fun j hj => by omega⟩
  exact ⟨μ', e, h2, h3⟩
theorem M_lO {n F D y : Nat} {μ : hb_m} (hF : rd μ 1 0 = nI F) (h8 : F ≤ 8) (har : ∀ f, f < F → rg (rd μ 1 (7 + 3 * f)) 1 200) (hy : y < 4) (hD : rd μ 1 (133 + 71 * y) = nI D) (hD20 : D ≤ 20) (hat : ∀ d, d < D → ∃ a, a < 8 ∧ rd μ 1 (31 + 5 * d) = nI a) (hal : ¬ sI (p_fU (p_oU (rd μ 1) y) (rd μ 1) D) F ≤ 0 → ¬ p_all (p_fU (p_oU (rd μ 1) y) (rd μ 1) D) F = 0) (hn : 2147483648 ≤ n) : ∃ μ', fX6_laysOld n (nI y) μ = some μ' ∧ sx [5, 6, 7, 8, 9, 10] μ μ' ∧ (∀ i, i < F → rd μ' 9 i = p_bse (rd μ 1) F (rd μ 1 (131 + 71 * y)) (rd μ 1 (132 + 71 * y)) i ∧ rd μ' 10 i = p_usd (rd μ 1) F (p_fU (p_oU (rd μ 1) y) (rd μ 1) D) (rd μ 1 (131 + 71 * y)) (rd μ 1 (132 + 71 * y)) i) := by
  have x1 : 131 + 71 * y + 2 = 133 + 71 * y := by omega
  have x2 : 131 + 71 * y + 1 = 132 + 71 * y := by omega
  unfold fX6_laysOld
  obtain ⟨μ1, e1, s1, g1⟩ := M_z8o (μ := μ) (p := nI y) (k := fun x2_2 m2 => lX6_laysOld_23 n (nI y) (fun x2_23 m23 => bi (fX6_old n (nI y) 0 m23) (fun r76 m76 => if ib r76 415 then bi (fX6_old n (nI y) 1 m76) (fun r86 m86 => if ib r86 415 then bv (fX6_laysCosts n (rd m76 1 r76.toNatClampNeg) (rd m86 1 r86.toNatClampNeg) m86) (fun m90 => some m90) else none) else none)) n 0 m2) hn
  rw [e1]
  obtain ⟨μ2, ⟨h2, h3⟩, e2⟩ := lo (S := hb_m) (fun f i s => lX6_laysOld_23 n (nI y) (fun x2_23 m23 => bi (fX6_old n (nI y) 0 m23) (fun r76 m76 => if ib r76 415 then bi (fX6_old n (nI y) 1 m76) (fun r86 m86 => if ib r86 415 then bv (fX6_laysCosts n (rd m76 1 r76.toNatClampNeg) (rd m86 1 r86.toNatClampNeg) m86) (fun m90 => some m90) else none) else none)) f (nI i) s) D (fun s => bv (fX6_laysCosts n (rd s 1 (131 + 71 * y)) (rd s 1 (132 + 71 * y)) s) (fun m90 => some m90)) (fun i s => sx [8] μ s ∧ ∀ f, f < 8 → rd s 8 f = p_fU (p_oU (rd μ 1) y) (rd μ 1) i f)
    (fun f s hI => by
      have hr : rd s 1 = rd μ 1 := funext (hI.1 1 (by decide)).1
      rw [lX6_laysOld_23]
      rw [li2, M_old, bi_some, ib_ok (by omega) (by omega), if_pos rfl, cl_ok (by omega), x1, hr, hD, if_pos (by rw [le_ok (by omega) (by omega)]; omega), li0, M_old, bi_some, ib_ok (by omega) (by omega), if_pos rfl, li1, M_old, bi_some, ib_ok (by omega) (by omega), if_pos rfl, cl_ok (by omega), cl_ok (by omega), x2, Nat.add_zero, hr])
    (fun f i s hi hI => by
      obtain ⟨h2, h3⟩ := hI
      have hr : rd s 1 = rd μ 1 := funext (h2 1 (by decide)).1
      obtain ⟨a, ha, hat'⟩ := hat i hi
      have x3 : 131 + 71 * y + (3 + i) = 134 + 71 * y + i := by omega
      refine ⟨wr s 8 a (rd s 8 a + p_oU (rd μ 1) y i), ⟨sx_tr h2 (sx_wr (by decide)), fun f hf => ?_⟩, ?_⟩
      · rw [p_fU_s _ _ hat' ha hf, rd_wr]
        by_cases hfa : f = a
        · subst hfa
          rw [if_pos ⟨rfl, rfl⟩, if_pos rfl, h3 f hf]
        · rw [if_neg (fun q => hfa q.2), if_neg hfa, h3 f hf]
      · rw [lX6_laysOld_23]
        rw [li2, M_old, bi_some, ib_ok (by omega) (by omega), if_pos rfl, cl_ok (by omega), x1, hr, hD, if_neg (by rw [le_ok (by omega) (by omega)]; omega), li0, M_of (by omega), bi_some, Nat.add_zero, hr, hat', ib_ok ha (by omega), if_pos rfl, li3, nI_add, M_old, bi_some, x3, ib_ok (by omega) (by omega), if_pos rfl, if_pos rfl, cl_ok (by omega), cl_ok (by omega), li1, nI_add, hr]
        rfl)
    n 0 μ1 (by omega) (by omega) ⟨s1, fun f hf => by rw [g1 f hf]; rfl⟩
  have hr : rd μ2 1 = rd μ 1 := funext (h2 1 (by decide)).1
  have hg : ∀ f, f < F → rd μ2 8 f = p_fU (p_oU (rd μ 1) y) (rd μ 1) D f := fun f hf => h3 f (by omega)
  have hs : sI (rd μ2 8) F = sI (p_fU (p_oU (rd μ 1) y) (rd μ 1) D) F := sI_co F hg
  have ha : p_all (rd μ2 8) F = p_all (p_fU (p_oU (rd μ 1) y) (rd μ 1) D) F := p_all_co F hg
  obtain ⟨μ3, e3, s3, g3⟩ := M_lC (c := rd μ2 1 (131 + 71 * y)) (b := rd μ2 1 (132 + 71 * y)) (μ := μ2) (F := F) (by rw [hr]; exact hF) h8 (by rw [hr]; exact har) (by rw [hs, ha]; exact hal) hn
  refine ⟨μ3, ?_, sx_tr (sx_mo h2 (by decide)) (sx_mo s3 (by decide)), fun i hi => ?_⟩
  · refine Eq.trans e2 ?_
    rw [e3, bv_some]
  · have h := g3 i hi
    rw [hr] at h
    refine ⟨h.1, h.2.trans ?_⟩
    unfold p_usd
    rw [hs]
    by_cases h0 : sI (p_fU (p_oU (rd μ 1) y) (rd μ 1) D) F ≤ 0
    · rw [if_pos h0, if_pos h0]
    · rw [if_neg h0, if_neg h0]
      exact p_sh_co (by omega) hg hi
/-- 415 numbers from the place p of the row a to the place q of the row b -/
theorem M_lay {n a b na nb p q : Nat} {μ : hb_m} (ha : hm_n a = na) (hb : hm_n b = nb) (hab : a ≠ b) (hp : p + 415 ≤ na) (hq : q + 415 ≤ nb) (hna : na < 2147483648) (hnb : nb < 2147483648) (hn : 2147483648 ≤ n) : ∃ μ', fX6_lays n a (nI p) b (nI q) μ = some μ' ∧ (∀ k i, rd μ' k i = if k = b ∧ q ≤ i ∧ i < q + 415 then rd μ a (p + (i - q)) else rd μ k i) ∧ (∀ k i, rL μ' k i = rL μ k i) := by
  unfold fX6_lays
  obtain ⟨μ', ⟨h2, h3⟩, e⟩ := lo (S := hb_m) (fun f i s => lX6_lays_3 n a (nI p) b (nI q) (fun x4_3 m3 => some m3) f (nI i) s) 415 (fun s => some s) (fun i s => (∀ k j, rd s k j = if k = b ∧ q ≤ j ∧ j < q + i then rd μ a (p + (j - q)) else rd μ k j) ∧ (∀ k j, rL s k j = rL μ k j))
    (fun f s hI => by
      rw [lX6_lays_3]
      rw [if_pos (by rw [li415, le_ok (by omega) (by omega)]; omega)])
    (fun f i s hi hI => by
      obtain ⟨h2, h3⟩ := hI
      refine ⟨wr s b (q + i) (rd s a (p + i)), ⟨fun k j => ?_, fun k j => ?_⟩, ?_⟩
      · rw [rd_wr]
        by_cases hk : k = b ∧ j = q + i
        · obtain ⟨rfl, rfl⟩ := hk
          rw [if_pos ⟨rfl, rfl⟩, if_pos ⟨rfl, by omega, by omega⟩, h2, if_neg (fun z => hab z.1), Nat.add_sub_cancel_left]
        · rw [if_neg hk, h2]
          by_cases hz : k = b ∧ q ≤ j ∧ j < q + i
          · rw [if_pos hz, if_pos ⟨hz.1, hz.2.1, by omega⟩]
          · rw [if_neg hz, if_neg (fun z => hz ⟨z.1, z.2.1, by
              have : j ≠ q + i := fun e => hk ⟨z.1, e⟩
              omega⟩)]
      · rw [rL_wr]; exact h3 k j
      · rw [lX6_lays_3]
        rw [if_neg (by rw [li415, le_ok (by omega) (by omega)]; omega), nI_add, nI_add, ha, hb, ib_ok (by omega) (by omega), if_pos rfl, ib_ok (by omega) (by omega), if_pos rfl, cl_ok (by omega), cl_ok (by omega), li1, nI_add])
    n 0 μ (by omega) (by omega) ⟨fun k j => by rw [if_neg (by omega)], fun _ _ => rfl⟩
  exact ⟨μ', e, h2, h3⟩

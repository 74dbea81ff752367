/-! THE REFERENCE, PURE: acts are recorded -/
theorem hm_n1 : hm_n 1 = 415 := rfl
theorem hm_n2 : hm_n 2 = 1660 := rfl
theorem hm_n3 : hm_n 3 = 415 := rfl
theorem M_shift {n : Nat} {μ : hb_m} {k : Int32 → hb_m → Option hb_m} (hn : 2147483648 ≤ n) : ∃ μ', lX6_records_10 n k n 0 μ = k (nI 1245) μ' ∧ (∀ c i, rd μ' c i = if c = 2 ∧ i < 1245 then rd μ 2 (i + 415) else rd μ c i) ∧ (∀ c i, rL μ' c i = rL μ c i) := by
  obtain ⟨μ', ⟨h2, h3⟩, e⟩ := lo (S := hb_m) (fun f i s => lX6_records_10 n k f (nI i) s) 1245 (fun s => k (nI 1245) s) (fun i s => (∀ c j, rd s c j = if c = 2 ∧ j < i then rd μ 2 (j + 415) else rd μ c j) ∧ (∀ c j, rL s c j = rL μ c j))
    (fun f s hI => by
      rw [lX6_records_10]
      rw [if_pos (by rw [li1245, le_ok (by omega) (by omega)]; omega)])
    (fun f i s hi hI => by
      obtain ⟨h2, h3⟩ := hI
      refine ⟨wr s 2 i (rd s 2 (i + 415)), ⟨fun c j => ?_, fun c j => ?_⟩, ?_⟩
      · rw [rd_wr]
        by_cases hk : c = 2 ∧ j = i
        · obtain ⟨rfl, rfl⟩ := hk
          rw [if_pos ⟨rfl, rfl⟩, if_pos ⟨rfl, by omega⟩, h2, if_neg (by omega)]
        · rw [if_neg hk, h2]
          by_cases hz : c = 2 ∧ j < i
          · rw [if_pos hz, if_pos ⟨hz.1, by omega⟩]
          · rw [if_neg hz, if_neg (fun z => hz ⟨z.1, by
              have : j ≠ i := fun e => hk ⟨z.1, e⟩
              omega⟩)]
      · rw [rL_wr]; exact h3 c j
      · rw [lX6_records_10]
        rw [if_neg (by rw [li1245, le_ok (by omega) (by omega)]; omega), li415, nI_add, ib_ok (by omega) (by omega), if_pos rfl, ib_ok (by omega) (by omega), if_pos rfl, cl_ok (by omega), cl_ok (by omega), li1, nI_add])
    n 0 μ (by omega) (by omega) ⟨fun c j => by rw [if_neg (by omega)], fun _ _ => rfl⟩
  exact ⟨μ', e, h2, h3⟩
theorem M_rec {n h : Nat} {μ : hb_m} (hs : rd μ 0 2 = nI h) (h4 : h ≤ 4) (hn : 2147483648 ≤ n) : ∃ μ', fX6_records n μ = some μ' ∧ rd μ' 0 2 = nI (if h = 4 then 4 else h + 1) ∧ (∀ i k, i < (if h = 4 then 3 else h) → k < 415 → rd μ' 2 (415 * i + k) = rd μ 2 (415 * (if h = 4 then i + 1 else i) + k)) ∧ (∀ k, k < 415 → rd μ' 2 (415 * (if h = 4 then 3 else h) + k) = rd μ 1 k) ∧ (∀ c i, c ≠ 2 → (c ≠ 0 ∨ i ≠ 2) → rd μ' c i = rd μ c i) ∧ (∀ c i, rL μ' c i = rL μ c i) := by
  unfold fX6_records
  rw [hs]
  by_cases e4 : h = 4
  · subst e4
    rw [if_pos (by rfl)]
    obtain ⟨μ1, e1, g1, l1⟩ := M_shift (μ := μ) (k := fun x1_10 m10 => bv (fX6_lays n 1 0 2 (415 * (rd (wr m10 0 2 ((rd m10 0 2) - 1)) 0 2)) (wr m10 0 2 ((rd m10 0 2) - 1))) (fun m66 => some (wr m66 0 2 ((rd m66 0 2) + 1)))) hn
    have a1 : rd μ1 0 2 = nI 4 := by rw [g1, if_neg (by omega)]; exact hs
    have a2 : rd μ1 0 2 - 1 = nI 3 := by rw [a1]; rfl
    obtain ⟨μ2, e2, g2, l2⟩ := M_lay (n := n) (a := 1) (b := 2) (p := 0) (q := 1245) (μ := wr μ1 0 2 (nI 3)) hm_n1 hm_n2 (by decide) (by omega) (by omega) (by omega) (by omega) hn
    have a3 : (415 : Int32) * rd (wr μ1 0 2 (nI 3)) 0 2 = nI 1245 := by rw [rd_wr, if_pos ⟨rfl, rfl⟩]; rfl
    have a4 : rd μ2 0 2 = nI 3 := by rw [g2, if_neg (by omega), rd_wr, if_pos ⟨rfl, rfl⟩]
    refine ⟨wr μ2 0 2 (nI 4), ?_, ?_, fun i k hi hk => ?_, fun k hk => ?_, fun c i hc hi => ?_, fun c i => ?_⟩
    · rw [e1, a2, a3, li0, e2, bv_some, a4]
      rfl
    · rw [rd_wr, if_pos ⟨rfl, rfl⟩, if_pos rfl]
    · rw [if_pos rfl] at hi
      rw [if_pos rfl, rd_wr, if_neg (by omega), g2, if_neg (by omega), rd_wr, if_neg (by omega), g1, if_pos ⟨rfl, by omega⟩]
      congr 1
      omega
    · rw [if_pos rfl, rd_wr, if_neg (by omega), g2, if_pos ⟨rfl, by omega, by omega⟩, rd_wr, if_neg (by omega), g1, if_neg (by omega), show 0 + (415 * 3 + k - 1245) = k by omega]
    · rw [rd_wr, if_neg (by omega), g2, if_neg (by omega), rd_wr, if_neg (by omega), g1, if_neg (by omega)]
    · rw [rL_wr, l2, rL_wr, l1]
  · rw [if_neg (by rw [li4, eq_ok (by omega) (by omega)]; exact e4)]
    obtain ⟨μ2, e2, g2, l2⟩ := M_lay (n := n) (a := 1) (b := 2) (p := 0) (q := 415 * h) (μ := μ) hm_n1 hm_n2 (by decide) (by omega) (by omega) (by omega) (by omega) hn
    have a4 : rd μ2 0 2 = nI h := by rw [g2, if_neg (by omega)]; exact hs
    refine ⟨wr μ2 0 2 (nI (h + 1)), ?_, ?_, fun i k hi hk => ?_, fun k hk => ?_, fun c i hc hi => ?_, fun c i => ?_⟩
    · rw [li415, pk_mul, li0, e2, bv_some, a4, li1, nI_add]
    · rw [rd_wr, if_pos ⟨rfl, rfl⟩, if_neg e4]
    · rw [if_neg e4] at hi
      rw [if_neg e4, rd_wr, if_neg (by omega), g2, if_neg (by omega)]
    · rw [if_neg e4, rd_wr, if_neg (by omega), g2, if_pos ⟨rfl, by omega, by omega⟩]
      congr 1
      omega
    · rw [rd_wr, if_neg (by omega), g2, if_neg (by omega)]
    · rw [rL_wr, l2]

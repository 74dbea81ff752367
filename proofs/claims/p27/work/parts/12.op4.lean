/-! THE CLASS, PURE: tenants -/
theorem X_ten0 {n f : Nat} {μ : hb_m} : fX5_tenantOf n (nI f) 0 μ = some (nI (2 * f), μ) := by
  unfold fX5_tenantOf
  rw [if_pos rfl, li2, pk_mul]
theorem X_ten1 {n f : Nat} {μ : hb_m} : fX5_tenantOf n (nI f) 1 μ = some (nI (2 * f + 1), μ) := by
  unfold fX5_tenantOf
  rw [if_neg (by decide), li2, pk_mul, show (1 : Int32) = nI 1 from rfl, nI_add]
theorem X_tenz {n f : Nat} {s : Int32} {μ : hb_m} (h : ¬ s = 0) : fX5_tenantOf n (nI f) s μ = some (nI (2 * f + 1), μ) := by
  unfold fX5_tenantOf
  rw [if_neg h, li2, pk_mul, show (1 : Int32) = nI 1 from rfl, nI_add]
theorem X_bfst {n C f mo : Nat} {μ : hb_m} (hf : f < 8) (hm : rd μ (C + 1) f = nI mo) (hmo : mo ≤ 12) (h0 : mo ≠ 0) (hn : 2147483648 ≤ n) : fX0_billOfFirst n C (nI f) μ = some (p_fst (rd μ 237 f) (rd μ 238 f) mo (rd μ (C + 2) f), μ) := by
  unfold fX0_billOfFirst fX4_thousandthsOfFirst p_fst
  rw [ib_ok hf (by omega), cl_ok (by omega), hm, X_wA hmo hn]
  simp only [if_true, bi_some, h0, if_false]
  by_cases h5 : rd μ (C + 2) f = -5
  · simp only [h5, if_true, bi_some]
  · simp only [h5, if_false, bi_some]
def p_bil (bs us : Nat → Int32) (mo : Nat → Nat) (part : Nat → Int32) (k : Nat) : Int32 := p_ten (bs (k / 2)) (us (k / 2)) (mo (k / 2)) (part (k / 2)) (nI (k % 2))
theorem X_spl {n B C F : Nat} {mo : Nat → Nat} {part : Nat → Int32} {μ : hb_m} (hB : B < 228) (hC : C + 6 ≤ 228) (hF : rd μ B 0 = nI F) (h8 : F ≤ 8) (hm : ∀ f, f < F → rd μ (C + 1) f = if mo f = 0 then -5 else nI (mo f)) (hmo : ∀ f, f < F → mo f ≤ 11) (hp : ∀ f, f < F → rd μ (C + 2) f = part f) (hn : 2147483648 ≤ n) : ∃ μ', fX0_splitByTenants n B C μ = some μ' ∧ sx [239] μ μ' ∧ ∀ k, k < 16 → rd μ' 239 k = if k < 2 * F then p_bil (rd μ 237) (rd μ 238) mo part k else 0 := by
  unfold fX0_splitByTenants
  obtain ⟨μ0, e0, g0, l0⟩ := X_fill (n := n) (a := 239) (L := 16) (v := 0) (μ := μ) hx_n239 (by omega) hn
  have s0 : sx [239] μ μ0 := fun k hk => ⟨fun i => by
    have hk' : k ≠ 239 := by simpa using hk
    rw [g0, if_neg (fun q => hk' q.1)], l0 k⟩
  rw [e0, bv_some]
  obtain ⟨μ', ⟨h2, h3⟩, e⟩ := lo (S := hb_m) (fun f i s => lX0_splitByTenants_10 n B C (fun x3_10 m10 => some m10) f (nI i) s) F (fun s => some s) (fun i s => sx [239] μ s ∧ ∀ k, k < 16 → rd s 239 k = if k < 2 * i then p_bil (rd μ 237) (rd μ 238) mo part k else 0)
    (fun f s hI => by
      rw [lX0_splitByTenants_10]
      rw [(hI.1 B (by simp; omega)).1, hF, if_pos (by rw [le_ok (by omega) (by omega)]; omega)])
    (fun f i s hi hI => by
      obtain ⟨h2, h3⟩ := hI
      have hx : ∀ k j, k ≠ 239 → rd s k j = rd μ k j := fun k j hk => (h2 k (by simpa using hk)).1 j
      have d0 : 2 * i / 2 = i := by omega
      have d1 : (2 * i + 1) / 2 = i := by omega
      have m0 : 2 * i % 2 = 0 := by omega
      have m1 : (2 * i + 1) % 2 = 1 := by omega
      have hmi := hm i hi
      have b0 : p_bil (rd μ 237) (rd μ 238) mo part (2 * i) = p_fst (rd μ 237 i) (rd μ 238 i) (mo i) (part i) := by
        unfold p_bil p_ten
        rw [d0, m0, if_pos (show nI 0 = 0 from rfl)]
      have b1 : p_bil (rd μ 237) (rd μ 238) mo part (2 * i + 1) = rd μ 237 i + rd μ 238 i - p_fst (rd μ 237 i) (rd μ 238 i) (mo i) (part i) := by
        unfold p_bil p_ten
        rw [d1, m1, if_neg (show ¬ nI 1 = 0 by decide)]
      have hw : ∀ v, v = p_fst (rd μ 237 i) (rd μ 238 i) (mo i) (part i) → ∀ k, k < 16 → rd (wr (wr s 239 (2 * i) v) 239 (2 * i + 1) (rd μ 237 i + rd μ 238 i - v)) 239 k = if k < 2 * (i + 1) then p_bil (rd μ 237) (rd μ 238) mo part k else 0 := by
        intro v hv k hk
        subst hv
        rw [rd_wr, rd_wr, h3 k hk]
        by_cases k1 : k = 2 * i + 1
        · rw [if_pos ⟨rfl, k1⟩, if_pos (by omega), k1, b1]
        · rw [if_neg (fun q => k1 q.2)]
          by_cases k0 : k = 2 * i
          · rw [if_pos ⟨rfl, k0⟩, if_pos (by omega), k0, b0]
          · rw [if_neg (fun q => k0 q.2)]
            by_cases k2 : k < 2 * i
            · rw [if_pos k2, if_pos (by omega)]
            · rw [if_neg k2, if_neg (by omega)]
      rw [lX0_splitByTenants_10]
      rw [hx B _ (by omega), hF, if_neg (by rw [le_ok (by omega) (by omega)]; omega), X_bF (by omega), bi_some, X_hasMove (by omega), bi_some, hx 237 _ (by omega), hx 238 _ (by omega), hx (C + 1) _ (by omega), hmi]
      by_cases z : mo i = 0
      · refine ⟨wr (wr s 239 (2 * i) (rd μ 237 i + rd μ 238 i)) 239 (2 * i + 1) (rd μ 237 i + rd μ 238 i - (rd μ 237 i + rd μ 238 i)), ⟨sx_tr h2 (sx_tr (sx_wr (by simp)) (sx_wr (by simp))), hw _ (by unfold p_fst; rw [if_pos z])⟩, ?_⟩
        rw [if_pos z, if_pos (show (-5 : Int32) = -5 from rfl)]
        simp only [e00, if_true]
        rw [X_ten0, bi_some, ib_ok (by omega) (by omega), if_pos rfl, X_ten1, bi_some, ib_ok (by omega) (by omega), if_pos rfl, cl_ok (by omega), cl_ok (by omega), li1, nI_add]
      · have hne : ¬ nI (mo i) = -5 := fun q => by
          have := neg_ne (b := mo i) (by have := hmo i hi; omega)
          rw [this] at q
          exact q
        refine ⟨wr (wr s 239 (2 * i) (p_fst (rd μ 237 i) (rd μ 238 i) (mo i) (part i))) 239 (2 * i + 1) (rd μ 237 i + rd μ 238 i - p_fst (rd μ 237 i) (rd μ 238 i) (mo i) (part i)), ⟨sx_tr h2 (sx_tr (sx_wr (by simp)) (sx_wr (by simp))), hw _ rfl⟩, ?_⟩
        rw [if_neg z, if_neg hne]
        simp only [e10, if_false]
        rw [X_bfst (mo := mo i) (by omega) (by rw [hx _ _ (by omega), hmi, if_neg z]) (by have := hmo i hi; omega) z hn, bi_some, hx 237 _ (by omega), hx 238 _ (by omega), hx (C + 2) _ (by omega), hp i hi, X_ten0, bi_some, ib_ok (by omega) (by omega), if_pos rfl, X_ten1, bi_some, ib_ok (by omega) (by omega), if_pos rfl, cl_ok (by omega), cl_ok (by omega), li1, nI_add])
    n 0 μ0 (by omega) (by omega) ⟨s0, fun k hk => by rw [g0, if_pos ⟨rfl, hk⟩, if_neg (by omega)]⟩
  exact ⟨μ', e, h2, h3⟩
/-- months and readings in between of the open year, as the class has them -/
theorem op_mo {F D Y : Nat} {ρ : Nat → Int32} {μ : hb_m} (hi : Inv ρ F D Y) (hr : Rep μ 0 ρ F D Y) : (∀ f, f < F → rd μ (0 + 8 + 1) f = if (ρ (8 + 3 * f)).toNatClampNeg = 0 then -5 else nI (ρ (8 + 3 * f)).toNatClampNeg) ∧ (∀ f, f < F → (ρ (8 + 3 * f)).toNatClampNeg ≤ 11) ∧ (∀ f, f < F → rd μ (0 + 8 + 2) f = ρ (9 + 3 * f)) ∧ (∀ f, f < F → ρ (8 + 3 * f) = nI (ρ (8 + 3 * f)).toNatClampNeg) := by
  have hF8 := hi.1.1
  have c2 := hr.2.2.2.1
  have c3 := hr.2.2.2.2.1
  have b2 := hi.2.2.2.1
  refine ⟨fun f hf => ?_, fun f hf => (b2 f hf).2.2, fun f hf => ?_, fun f hf => (b2 f hf).1⟩
  · have := c2 f (by omega)
    obtain ⟨e, -, hle⟩ := b2 f hf
    refine this.trans ?_
    by_cases z : (ρ (8 + 3 * f)).toNatClampNeg = 0
    · have z2 : ρ (8 + 3 * f) = 0 := by rw [e, z]; rfl
      rw [if_neg (fun q => q.2 z2), if_pos z]
    · have z2 : ¬ ρ (8 + 3 * f) = 0 := fun q => z (by rw [q]; rfl)
      rw [if_pos ⟨hf, z2⟩, if_neg z]
      exact e
  · have := c3 f (by omega)
    rw [if_pos hf] at this
    exact this

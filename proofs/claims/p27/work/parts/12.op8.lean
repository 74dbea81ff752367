/-! BOTH SIDES: counts -/
theorem X_fC {n B D : Nat} {ρ : Nat → Int32} {μ : hb_m} (hD : rd μ (B + 8) 2 = nI D) (hD20 : D ≤ 20) (h2 : ∀ d, d < D → rd μ (B + 6) d = ρ (35 + 5 * d)) (h01 : ∀ d, d < D → ρ (35 + 5 * d) = 0 ∨ ρ (35 + 5 * d) = 1) (hn : 2147483648 ≤ n) : fX2_faultyCount n B μ = some (sI (fun d => ρ (35 + 5 * d)) D, μ) := by
  unfold fX2_faultyCount
  obtain ⟨⟨a, μ'⟩, ⟨h1, h2'⟩, e⟩ := lo (S := Int32 × hb_m) (fun g i s => lX2_faultyCount_4 n B (fun x2_4 x1_4 m4 => some (x1_4, m4)) g (nI i) s.1 s.2) D (fun s => some (s.1, s.2)) (fun i s => s.1 = sI (fun d => ρ (35 + 5 * d)) i ∧ s.2 = μ)
    (fun g s hI => by
      obtain ⟨a, μ'⟩ := s
      obtain ⟨h1, rfl⟩ := hI
      rw [lX2_faultyCount_4]
      dsimp only
      rw [hD, if_pos (by rw [le_ok (by omega) (by omega)]; omega)])
    (fun g i s hi hI => by
      obtain ⟨a, μ'⟩ := s
      obtain ⟨h1, rfl⟩ := hI
      dsimp only at h1 ⊢
      subst h1
      refine ⟨(sI (fun d => ρ (35 + 5 * d)) (i + 1), μ'), ⟨rfl, rfl⟩, ?_⟩
      rw [lX2_faultyCount_4]
      rw [hD, if_neg (by rw [le_ok (by omega) (by omega)]; omega), ib_ok (by omega) (by omega), if_pos rfl, cl_ok (by omega), h2 i hi, show nI i + 1 = nI (i + 1) from nI_1 i, sI]
      rcases h01 i hi with z | z
      · rw [z, if_pos rfl, Int32.add_zero]
      · rw [z, if_neg (by decide)])
    n 0 (0, μ) (by omega) (by omega) ⟨rfl, rfl⟩
  refine Eq.trans e ?_
  rw [h1, h2']
theorem M_fC {n D : Nat} {ν : hb_m} (hD : rd ν 1 1 = nI D) (hD20 : D ≤ 20) (hn : 2147483648 ≤ n) : fX6_faulty n ν = some (sI (fun d => rd ν 1 (35 + 5 * d)) D, ν) := by
  unfold fX6_faulty
  obtain ⟨⟨a, μ'⟩, ⟨h1, h2'⟩, e⟩ := lo (S := Int32 × hb_m) (fun g i s => lX6_faulty_4 n (fun x2_4 x1_4 m4 => some (x1_4, m4)) g (nI i) s.1 s.2) D (fun s => some (s.1, s.2)) (fun i s => s.1 = sI (fun d => rd ν 1 (35 + 5 * d)) i ∧ s.2 = ν)
    (fun g s hI => by
      obtain ⟨a, μ'⟩ := s
      obtain ⟨h1, rfl⟩ := hI
      rw [lX6_faulty_4]
      dsimp only
      rw [show (1 : Int32).toNatClampNeg = 1 from rfl, hD, show ib 1 415 = true from by decide, if_pos rfl, if_pos (by rw [le_ok (by omega) (by omega)]; omega)])
    (fun g i s hi hI => by
      obtain ⟨a, μ'⟩ := s
      obtain ⟨h1, rfl⟩ := hI
      dsimp only at h1 ⊢
      subst h1
      refine ⟨(sI (fun d => rd μ' 1 (35 + 5 * d)) (i + 1), μ'), ⟨rfl, rfl⟩, ?_⟩
      rw [lX6_faulty_4]
      rw [show (1 : Int32).toNatClampNeg = 1 from rfl, hD, show ib 1 415 = true from by decide, if_pos rfl, if_neg (by rw [le_ok (by omega) (by omega)]; omega), show (4 : Int32) = nI 4 from rfl, M_of (by omega), bi_some, show nI i + 1 = nI (i + 1) from nI_1 i, show 31 + 5 * i + 4 = 35 + 5 * i by omega, sI])
    n 0 (0, ν) (by omega) (by omega) ⟨rfl, rfl⟩
  refine Eq.trans e ?_
  rw [h1, h2']
theorem M_ar {n F : Nat} {ν : hb_m} (hF : rd ν 1 0 = nI F) (h8 : F ≤ 8) (hn : 2147483648 ≤ n) : fX6_areas n ν = some (sI (fun f => rd ν 1 (7 + 3 * f)) F, ν) := by
  unfold fX6_areas
  obtain ⟨⟨a, μ'⟩, ⟨h1, h2'⟩, e⟩ := lo (S := Int32 × hb_m) (fun g i s => lX6_areas_4 n (fun x2_4 x1_4 m4 => some (x1_4, m4)) g (nI i) s.1 s.2) F (fun s => some (s.1, s.2)) (fun i s => s.1 = sI (fun f => rd ν 1 (7 + 3 * f)) i ∧ s.2 = ν)
    (fun g s hI => by
      obtain ⟨a, μ'⟩ := s
      obtain ⟨h1, rfl⟩ := hI
      rw [lX6_areas_4]
      dsimp only
      rw [show (0 : Int32).toNatClampNeg = 0 from rfl, hF, show ib 0 415 = true from by decide, if_pos rfl, if_pos (by rw [le_ok (by omega) (by omega)]; omega)])
    (fun g i s hi hI => by
      obtain ⟨a, μ'⟩ := s
      obtain ⟨h1, rfl⟩ := hI
      dsimp only at h1 ⊢
      subst h1
      refine ⟨(sI (fun f => rd μ' 1 (7 + 3 * f)) (i + 1), μ'), ⟨rfl, rfl⟩, ?_⟩
      rw [lX6_areas_4]
      rw [show (0 : Int32).toNatClampNeg = 0 from rfl, hF, show ib 0 415 = true from by decide, if_pos rfl, if_neg (by rw [le_ok (by omega) (by omega)]; omega), show (0 : Int32) = nI 0 from rfl, M_ofFlat (by omega), bi_some, show nI i + 1 = nI (i + 1) from nI_1 i, sI]
      rfl)
    n 0 (0, ν) (by omega) (by omega) ⟨rfl, rfl⟩
  refine Eq.trans e ?_
  rw [h1, h2']
theorem M_aU {n D Y : Nat} {ν : hb_m} (hD : rd ν 1 1 = nI D) (hD20 : D ≤ 20) (hY : rd ν 1 2 = nI Y) (hY4 : Y ≤ 4) (hn : 2147483648 ≤ n) : fX6_allUnits n ν = some (sI (p_uN (rd ν 1) D Y) D, ν) := by
  unfold fX6_allUnits
  obtain ⟨⟨a, μ'⟩, ⟨h1, h2'⟩, e⟩ := lo (S := Int32 × hb_m) (fun g i s => lX6_allUnits_4 n (fun x2_4 x1_4 m4 => some (x1_4, m4)) g (nI i) s.1 s.2) D (fun s => some (s.1, s.2)) (fun i s => s.1 = sI (p_uN (rd ν 1) D Y) i ∧ s.2 = ν)
    (fun g s hI => by
      obtain ⟨a, μ'⟩ := s
      obtain ⟨h1, rfl⟩ := hI
      rw [lX6_allUnits_4]
      dsimp only
      rw [show (1 : Int32).toNatClampNeg = 1 from rfl, hD, show ib 1 415 = true from by decide, if_pos rfl, if_pos (by rw [le_ok (by omega) (by omega)]; omega)])
    (fun g i s hi hI => by
      obtain ⟨a, μ'⟩ := s
      obtain ⟨h1, rfl⟩ := hI
      dsimp only at h1 ⊢
      subst h1
      refine ⟨(sI (p_uN (rd μ' 1) D Y) (i + 1), μ'), ⟨rfl, rfl⟩, ?_⟩
      rw [lX6_allUnits_4]
      rw [show (1 : Int32).toNatClampNeg = 1 from rfl, hD, show ib 1 415 = true from by decide, if_pos rfl, if_neg (by rw [le_ok (by omega) (by omega)]; omega), M_uN hD hD20 hY hY4 (by omega) hn, bi_some, show nI i + 1 = nI (i + 1) from nI_1 i, sI])
    n 0 (0, ν) (by omega) (by omega) ⟨rfl, rfl⟩
  refine Eq.trans e ?_
  rw [h1, h2']
theorem M_oB {n F : Nat} {ν ν' : hb_m} (e0 : fX6_laysOpen n (rd ν 1 4) ν = some ν') (hF : rd ν' 1 0 = nI F) (h8 : F ≤ 8) (hn : 2147483648 ≤ n) : fX6_openBills n ν = some (sI (fun f => rd ν' 9 f + rd ν' 10 f) F, ν') := by
  unfold fX6_openBills
  rw [show (4 : Int32).toNatClampNeg = 4 from rfl, show ib 4 415 = true from by decide, if_pos rfl, e0, bv_some]
  obtain ⟨⟨a, μ'⟩, ⟨h1, h2'⟩, e⟩ := lo (S := Int32 × hb_m) (fun g i s => lX6_openBills_14 n (fun x2_14 x1_14 m14 => some (x1_14, m14)) g (nI i) s.1 s.2) F (fun s => some (s.1, s.2)) (fun i s => s.1 = sI (fun f => rd ν' 9 f + rd ν' 10 f) i ∧ s.2 = ν')
    (fun g s hI => by
      obtain ⟨a, μ'⟩ := s
      obtain ⟨h1, rfl⟩ := hI
      rw [lX6_openBills_14]
      dsimp only
      rw [show (0 : Int32).toNatClampNeg = 0 from rfl, hF, show ib 0 415 = true from by decide, if_pos rfl, if_pos (by rw [le_ok (by omega) (by omega)]; omega)])
    (fun g i s hi hI => by
      obtain ⟨a, μ'⟩ := s
      obtain ⟨h1, rfl⟩ := hI
      dsimp only at h1 ⊢
      subst h1
      refine ⟨(sI (fun f => rd μ' 9 f + rd μ' 10 f) (i + 1), μ'), ⟨rfl, rfl⟩, ?_⟩
      rw [lX6_openBills_14]
      rw [show (0 : Int32).toNatClampNeg = 0 from rfl, hF, show ib 0 415 = true from by decide, if_pos rfl, if_neg (by rw [le_ok (by omega) (by omega)]; omega), ib_ok (show i < 8 by omega) (by omega), if_pos rfl, if_pos rfl, cl_ok (by omega), show nI i + 1 = nI (i + 1) from nI_1 i, sI])
    n 0 (0, ν') (by omega) (by omega) ⟨rfl, rfl⟩
  refine Eq.trans e ?_
  rw [h1, h2']
theorem sI_add (a b : Nat → Int32) : ∀ n, sI (fun i => a i + b i) n = sI a n + sI b n
  | 0 => by simp only [sI]; rfl
  | n + 1 => by
    simp only [sI]
    rw [sI_add a b n]
    ac_rfl
theorem sI_cat (g : Nat → Int32) (m : Nat) : ∀ k, sI g (m + k) = sI g m + sI (fun i => g (m + i)) k
  | 0 => by simp only [sI, Nat.add_zero, Int32.add_zero]
  | k + 1 => by
    rw [← Nat.add_assoc]
    simp only [sI]
    rw [sI_cat g m k, Int32.add_assoc]
theorem sI_z {g : Nat → Int32} : ∀ n, (∀ i, i < n → g i = 0) → sI g n = 0
  | 0, _ => rfl
  | n + 1, h => by
    simp only [sI]
    rw [sI_z n (fun i hi => h i (by omega)), h n (by omega)]
    rfl
theorem sI_two (g : Nat → Nat → Int32) {W : Nat} (hW : 0 < W) : ∀ Y, sI (fun k => g (k / W) (k % W)) (Y * W) = sI (fun y => sI (g y) W) Y
  | 0 => by simp only [Nat.zero_mul, sI]
  | Y + 1 => by
    rw [Nat.succ_mul, sI_cat, sI_two g hW Y]
    simp only [sI]
    congr 1
    refine sI_co W (fun i hi => ?_)
    rw [Nat.mul_comm Y W, Nat.mul_add_div hW, Nat.div_eq_of_lt hi, Nat.mul_add_mod, Nat.mod_eq_of_lt hi, Nat.add_zero]
theorem X_kB {n F Y : Nat} {ρ : Nat → Int32} {μ : hb_m} (hY : rd μ 0 10 = nI Y) (hY4 : Y ≤ 4) (h8 : F ≤ 8) (hb : ∀ y, y < Y → ∀ k, k < 16 → rd μ (0 + 14 + 6 * y + 4) k = if k < 2 * F then ρ (170 + 71 * y + k) else 0) (hn : 2147483648 ≤ n) : fX2_keptBills n 0 μ = some (sI (fun y => sI (fun k => ρ (170 + 71 * y + k)) (2 * F)) Y, μ) := by
  unfold fX2_keptBills
  obtain ⟨⟨a, μ'⟩, ⟨h1, h2'⟩, e⟩ := lo (S := Int32 × hb_m) (fun g i s => lX2_keptBills_4 n 0 (fun x2_4 x1_4 m4 => some (x1_4, m4)) g (nI i) s.1 s.2) Y (fun s => some (s.1, s.2)) (fun i s => s.1 = sI (fun y => sI (fun k => ρ (170 + 71 * y + k)) (2 * F)) i ∧ s.2 = μ)
    (fun g s hI => by
      obtain ⟨a, μ'⟩ := s
      obtain ⟨h1, rfl⟩ := hI
      rw [lX2_keptBills_4]
      dsimp only
      rw [hY, if_pos (by rw [le_ok (by omega) (by omega)]; omega)])
    (fun g i s hi hI => by
      obtain ⟨a, μ'⟩ := s
      obtain ⟨h1, rfl⟩ := hI
      dsimp only at h1 ⊢
      subst h1
      refine ⟨(sI (fun y => sI (fun k => ρ (170 + 71 * y + k)) (2 * F)) (i + 1), μ'), ⟨rfl, rfl⟩, ?_⟩
      have hl : hx_n (0 + 14 + 6 * i + 4) = 16 := by
        obtain h | h | h | h : i = 0 ∨ i = 1 ∨ i = 2 ∨ i = 3 := by omega
        all_goals subst h; rfl
      have hs : sI (rd μ' (0 + 14 + 6 * i + 4)) 16 = sI (fun k => ρ (170 + 71 * i + k)) (2 * F) := by
        rw [show 16 = 2 * F + (16 - 2 * F) by omega, sI_cat, sI_z (16 - 2 * F) (fun j hj => by rw [hb i hi _ (by omega), if_neg (by omega)]), Int32.add_zero]
        exact sI_co _ (fun j hj => by rw [hb i hi _ (by omega), if_pos hj])
      rw [lX2_keptBills_4]
      rw [hY, if_neg (by rw [le_ok (by omega) (by omega)]; omega), ib_ok (by omega) (by omega), if_pos rfl, cl_ok (by omega), show (16 : Int32) = nI 16 from rfl, X_sumOf (by omega) (by omega) hn, bi_some, hs, show nI i + 1 = nI (i + 1) from nI_1 i]
      rfl)
    n 0 (0, μ) (by omega) (by omega) ⟨rfl, rfl⟩
  refine Eq.trans e ?_
  rw [h1, h2']
theorem M_oldB {n F Y : Nat} {ν : hb_m} (hF : rd ν 1 0 = nI F) (h8 : F ≤ 8) (hY : rd ν 1 2 = nI Y) (hY4 : Y ≤ 4) (hn : 2147483648 ≤ n) : fX6_oldBills n ν = some (sI (fun k => rd ν 1 (170 + 71 * (k / (2 * F)) + k % (2 * F))) (Y * (2 * F)), ν) := by
  have hp : Y * (2 * F) ≤ 64 := by
    have := Nat.mul_le_mul hY4 (show 2 * F ≤ 16 by omega)
    omega
  have hc : nI Y * nI 2 * nI F = nI (Y * (2 * F)) := by rw [pk_mul, pk_mul, Nat.mul_assoc]
  unfold fX6_oldBills
  obtain ⟨⟨a, μ'⟩, ⟨h1, h2'⟩, e⟩ := lo (S := Int32 × hb_m) (fun g i s => lX6_oldBills_4 n (fun x2_4 x1_4 m4 => some (x1_4, m4)) g (nI i) s.1 s.2) (Y * (2 * F)) (fun s => some (s.1, s.2)) (fun i s => s.1 = sI (fun k => rd ν 1 (170 + 71 * (k / (2 * F)) + k % (2 * F))) i ∧ s.2 = ν)
    (fun g s hI => by
      obtain ⟨a, μ'⟩ := s
      obtain ⟨h1, rfl⟩ := hI
      rw [lX6_oldBills_4]
      dsimp only
      rw [show (0 : Int32).toNatClampNeg = 0 from rfl, show (2 : Int32).toNatClampNeg = 2 from rfl, hF, hY, show ib 0 415 = true from by decide, show ib 2 415 = true from by decide, if_pos rfl, if_pos rfl, li2, hc, if_pos (by rw [le_ok (by omega) (by omega)]; omega)])
    (fun g i s hi hI => by
      obtain ⟨a, μ'⟩ := s
      obtain ⟨h1, rfl⟩ := hI
      dsimp only at h1 ⊢
      subst h1
      refine ⟨(sI (fun k => rd μ' 1 (170 + 71 * (k / (2 * F)) + k % (2 * F))) (i + 1), μ'), ⟨rfl, rfl⟩, ?_⟩
      have hF1 : 0 < 2 * F := by
        rcases Nat.eq_zero_or_pos F with z | z
        · subst z; omega
        · omega
      have hlt : i / (2 * F) < 4 := by
        have : i / (2 * F) < Y := (Nat.div_lt_iff_lt_mul hF1).mpr hi
        omega
      have hmo := Nat.mod_lt i hF1
      have hne : ¬ nI (2 * F) = 0 := by rw [show (0 : Int32) = nI 0 from rfl, eq_ok (by omega) (by omega)]; omega
      rw [lX6_oldBills_4]
      rw [show (0 : Int32).toNatClampNeg = 0 from rfl, show (2 : Int32).toNatClampNeg = 2 from rfl, hF, hY, show ib 0 415 = true from by decide, show ib 2 415 = true from by decide, if_pos rfl, if_pos rfl, show (2 : Int32) = nI 2 from rfl, hc, if_neg (by rw [le_ok (by omega) (by omega)]; omega), if_pos rfl, pk_mul, if_neg hne, if_pos rfl, if_neg hne, pk_rem (by omega) hF1 (by omega), div_ok (by omega) hF1 (by omega), show (39 : Int32) = nI 39 from rfl, nI_add, M_old, bi_some, ib_ok (by omega) (by omega), if_pos rfl, cl_ok (by omega), show nI i + 1 = nI (i + 1) from nI_1 i, sI, show 131 + 71 * (i / (2 * F)) + (39 + i % (2 * F)) = 170 + 71 * (i / (2 * F)) + i % (2 * F) by omega])
    n 0 (0, ν) (by omega) (by omega) ⟨rfl, rfl⟩
  refine Eq.trans e ?_
  rw [h1, h2']
def p_mv (ρ : Nat → Int32) : Nat → Int32 := sI (fun f => if ρ (8 + 3 * f) = 0 then 0 else 1)
theorem X_mC {n F : Nat} {mo : Nat → Nat} {μ : hb_m} (hF : rd μ 0 0 = nI F) (h8 : F ≤ 8) (hm : ∀ f, f < F → rd μ (0 + 8 + 1) f = if mo f = 0 then -5 else nI (mo f)) (hmo : ∀ f, f < F → mo f ≤ 11) (hn : 2147483648 ≤ n) : fX2_moveCount n 0 μ = some (sI (fun f => if mo f = 0 then 0 else 1) F, μ) := by
  unfold fX2_moveCount
  obtain ⟨⟨a, μ'⟩, ⟨h1, h2'⟩, e⟩ := lo (S := Int32 × hb_m) (fun g i s => lX2_moveCount_4 n 0 (fun x2_4 x1_4 m4 => some (x1_4, m4)) g (nI i) s.1 s.2) F (fun s => some (s.1, s.2)) (fun i s => s.1 = sI (fun f => if mo f = 0 then 0 else 1) i ∧ s.2 = μ)
    (fun g s hI => by
      obtain ⟨a, μ'⟩ := s
      obtain ⟨h1, rfl⟩ := hI
      rw [lX2_moveCount_4]
      dsimp only
      rw [hF, if_pos (by rw [le_ok (by omega) (by omega)]; omega)])
    (fun g i s hi hI => by
      obtain ⟨a, μ'⟩ := s
      obtain ⟨h1, rfl⟩ := hI
      dsimp only at h1 ⊢
      subst h1
      refine ⟨(sI (fun f => if mo f = 0 then 0 else 1) (i + 1), μ'), ⟨rfl, rfl⟩, ?_⟩
      rw [lX2_moveCount_4]
      rw [hF, if_neg (by rw [le_ok (by omega) (by omega)]; omega), X_hasMove (by omega), bi_some, hm i hi, show nI i + 1 = nI (i + 1) from nI_1 i, sI]
      by_cases z : mo i = 0
      · rw [if_pos z, if_pos rfl, if_pos z]
        simp only [e00, if_true, Int32.add_zero]
      · have hne : ¬ nI (mo i) = -5 := fun q => by
          rw [neg_ne (by have := hmo i hi; omega)] at q
          exact q
        rw [if_neg z, if_neg hne, if_neg z]
        simp only [e10, if_false])
    n 0 (0, μ) (by omega) (by omega) ⟨rfl, rfl⟩
  refine Eq.trans e ?_
  rw [h1, h2']
theorem M_mC {n F : Nat} {mo : Nat → Nat} {ν : hb_m} (hF : rd ν 1 0 = nI F) (h8 : F ≤ 8) (hm : ∀ f, f < F → rd ν 1 (8 + 3 * f) = nI (mo f)) (hmo : ∀ f, f < F → mo f ≤ 11) (hn : 2147483648 ≤ n) : fX6_moves n ν = some (sI (fun f => if mo f = 0 then 0 else 1) F, ν) := by
  unfold fX6_moves
  obtain ⟨⟨a, μ'⟩, ⟨h1, h2'⟩, e⟩ := lo (S := Int32 × hb_m) (fun g i s => lX6_moves_4 n (fun x2_4 x1_4 m4 => some (x1_4, m4)) g (nI i) s.1 s.2) F (fun s => some (s.1, s.2)) (fun i s => s.1 = sI (fun f => if mo f = 0 then 0 else 1) i ∧ s.2 = ν)
    (fun g s hI => by
      obtain ⟨a, μ'⟩ := s
      obtain ⟨h1, rfl⟩ := hI
      rw [lX6_moves_4]
      dsimp only
      rw [show (0 : Int32).toNatClampNeg = 0 from rfl, hF, show ib 0 415 = true from by decide, if_pos rfl, if_pos (by rw [le_ok (by omega) (by omega)]; omega)])
    (fun g i s hi hI => by
      obtain ⟨a, μ'⟩ := s
      obtain ⟨h1, rfl⟩ := hI
      dsimp only at h1 ⊢
      subst h1
      refine ⟨(sI (fun f => if mo f = 0 then 0 else 1) (i + 1), μ'), ⟨rfl, rfl⟩, ?_⟩
      rw [lX6_moves_4]
      rw [show (0 : Int32).toNatClampNeg = 0 from rfl, hF, show ib 0 415 = true from by decide, if_pos rfl, if_neg (by rw [le_ok (by omega) (by omega)]; omega), show (1 : Int32) = nI 1 from rfl, M_ofFlat (by omega), bi_some, show 7 + 3 * i + 1 = 8 + 3 * i by omega, hm i hi, nI_add, sI]
      by_cases z : mo i = 0
      · rw [z, if_pos (by decide), if_pos rfl]
      · rw [if_neg (by rw [show (0 : Int32) = nI 0 from rfl, le_ok (by have := hmo i hi; omega) (by omega)]; omega), if_neg z])
    n 0 (0, ν) (by omega) (by omega) ⟨rfl, rfl⟩
  refine Eq.trans e ?_
  rw [h1, h2']
theorem ofp {p : Int32} {k : Nat} (h : p = nI k) : p = nI k := h
theorem Q_count {n : Nat} {p : Int32} {μ ν : hb_m} {ga gb : hb_m} (h13 : p = nI 13 → rd μ 229 2 = rd ν 0 2) (h14 : p = nI 14 → rd μ 231 1 = rd ν 0 6) (h : RQ ga gb μ ν) (hn : 2147483648 ≤ n) : Oq ga gb (fX5_count n p μ) (fX6_count n p ν) := by
  obtain ⟨F, D, Y, μ', ν', hi, hr, e1, e2, hR, hr', h1, g1, g2, g3, fx, fm, hk⟩ := Q_open h hn
  have hF8 := hi.1.1
  have hD20 := hi.1.2.1
  have hY4 := hi.1.2.2
  obtain ⟨w1, w2, w3, w4⟩ := op_mo hi hr
  obtain ⟨⟨a0, a1, a2, a3⟩, ⟨b0, b1, b2⟩, c1, c2, c3, d1, d2, d3, d4, y1, z1⟩ := id hr
  obtain ⟨-, ⟨i0, i1, i2⟩, -, -, -, iat, -, -, i8, -⟩ := id hi
  unfold fX5_count fX6_count
  rcases ix_cases p 15 (by omega) with hp | ⟨k, hk15, rfl⟩
  · simp only [show ¬ p = 0 from ne_of (k := 0) (by omega) hp (by omega), show ¬ p = 1 from ne_of (k := 1) (by omega) hp (by omega), show ¬ p = 2 from ne_of (k := 2) (by omega) hp (by omega), show ¬ p = 3 from ne_of (k := 3) (by omega) hp (by omega), show ¬ p = 4 from ne_of (k := 4) (by omega) hp (by omega), show ¬ p = 5 from ne_of (k := 5) (by omega) hp (by omega), show ¬ p = 6 from ne_of (k := 6) (by omega) hp (by omega), show ¬ p = 7 from ne_of (k := 7) (by omega) hp (by omega), show ¬ p = 8 from ne_of (k := 8) (by omega) hp (by omega), show ¬ p = 9 from ne_of (k := 9) (by omega) hp (by omega), show ¬ p = 10 from ne_of (k := 10) (by omega) hp (by omega), show ¬ p = 11 from ne_of (k := 11) (by omega) hp (by omega), show ¬ p = 12 from ne_of (k := 12) (by omega) hp (by omega), show ¬ p = 13 from ne_of (k := 13) (by omega) hp (by omega), show ¬ p = 14 from ne_of (k := 14) (by omega) hp (by omega), if_false]
    exact oq_mk rfl h
  · obtain z | z | z | z | z | z | z | z | z | z | z | z | z | z | z : k = 0 ∨ k = 1 ∨ k = 2 ∨ k = 3 ∨ k = 4 ∨ k = 5 ∨ k = 6 ∨ k = 7 ∨ k = 8 ∨ k = 9 ∨ k = 10 ∨ k = 11 ∨ k = 12 ∨ k = 13 ∨ k = 14 := by omega
    all_goals subst z
    · simp only [q_0_0, if_true]
      rw [show (2 : Int32).toNatClampNeg = 2 from rfl, show ib 2 415 = true from by decide, if_pos rfl]
      exact oq_mk (a3.trans i2.symm) h
    · simp only [q_1_0, q_1_1, if_true, if_false]
      rw [show (0 : Int32).toNatClampNeg = 0 from rfl, show ib 0 415 = true from by decide, if_pos rfl]
      exact oq_mk (a0.trans i0.symm) h
    · simp only [q_2_0, q_2_1, q_2_2, if_true, if_false]
      rw [show (1 : Int32).toNatClampNeg = 1 from rfl, show ib 1 415 = true from by decide, if_pos rfl]
      exact oq_mk (b2.trans i1.symm) h
    · simp only [q_3_0, q_3_1, q_3_2, q_3_3, if_true, if_false]
      rw [X_fC b2 hD20 (fun d hd => by rw [d4 d (by omega), if_pos hd]) i8 hn, M_fC i1 hD20 hn, bi_some, bi_some]
      exact oq_mk rfl h
    · simp only [q_4_0, q_4_1, q_4_2, q_4_3, q_4_4, if_true, if_false]
      rw [show (3 : Int32) + nI 4 - 4 = nI 3 from by decide, show nI 4 - (4 : Int32) = 0 from by decide, ib_ok (by omega) (by omega), if_pos rfl, cl_ok (by omega)]
      unfold fX2_setting
      rw [if_pos rfl, bi_some]
      exact oq_mk b0 h
    · simp only [q_5_0, q_5_1, q_5_2, q_5_3, q_5_4, q_5_5, if_true, if_false]
      rw [show (3 : Int32) + nI 5 - 4 = nI 4 from by decide, show nI 5 - (4 : Int32) = 1 from by decide, ib_ok (by omega) (by omega), if_pos rfl, cl_ok (by omega)]
      unfold fX2_setting
      rw [if_neg (by decide), if_pos rfl, bi_some]
      exact oq_mk b1 h
    · simp only [q_6_0, q_6_1, q_6_2, q_6_3, q_6_4, q_6_5, q_6_6, if_true, if_false]
      rw [show (3 : Int32) + nI 6 - 4 = nI 5 from by decide, show nI 6 - (4 : Int32) = 2 from by decide, ib_ok (by omega) (by omega), if_pos rfl, cl_ok (by omega)]
      unfold fX2_setting
      rw [if_neg (by decide), if_neg (by decide), bi_some]
      exact oq_mk a1 h
    · simp only [q_7_0, q_7_1, q_7_2, q_7_3, q_7_4, q_7_5, q_7_6, q_7_7, if_true, if_false]
      rw [a0, X_sumOf (show F ≤ hx_n (0 + 1) by rw [show hx_n (0 + 1) = 8 from rfl]; omega) (by decide) hn, M_ar i0 hF8 hn, bi_some, bi_some]
      exact oq_mk (sI_co F (fun f hf => c1 f hf)) h
    · simp only [q_8_0, q_8_1, q_8_2, q_8_3, q_8_4, q_8_5, q_8_6, q_8_7, q_8_8, if_true, if_false]
      rw [e1, bv_some, hr'.1.1, X_sumOf (show F ≤ hx_n 236 by rw [hx_n236]; omega) (by decide) hn, M_aU i1 hD20 i2 hY4 hn, bi_some, bi_some]
      refine oq_mk ?_ (RQ_q h fx fM_rf hk (fun _ => rfl))
      rw [sI_co F (fun f hf => (g2 f (by omega)).2)]
      exact (fU_all (ρ := rd ν 1) (u := p_uN (rd ν 1) D Y) hF8 hD20 (fun d hd => uN_b hi hd) iat).2
    · simp only [q_9_0, q_9_1, q_9_2, q_9_3, q_9_4, q_9_5, q_9_6, q_9_7, q_9_8, q_9_9, if_true, if_false]
      rw [e1, bv_some, hr'.1.1, X_sumOf (show F ≤ hx_n 237 by rw [hx_n237]; omega) (by decide) hn, bi_some, hr'.1.1, X_sumOf (show F ≤ hx_n 238 by rw [hx_n238]; omega) (by decide) hn, bi_some, M_oB e2 (by rw [h1]; exact i0) hF8 hn, bi_some]
      refine oq_mk ?_ hR
      rw [← sI_add]
      exact sI_co F (fun f hf => by rw [(g1 f hf).1, (g1 f hf).2])
    · simp only [q_10_0, q_10_1, q_10_2, q_10_3, q_10_4, q_10_5, q_10_6, q_10_7, q_10_8, q_10_9, q_10_10, if_true, if_false]
      rw [X_kB a3 hY4 hF8 (fun y hy k hk => (y1 y hy).2.2.2.2.2.2.1 k hk) hn, M_oldB i0 hF8 i2 hY4 hn, bi_some, bi_some]
      refine oq_mk ?_ h
      rcases Nat.eq_zero_or_pos F with z | z
      · subst z
        rw [sI_z Y (fun y hy => by rw [Nat.mul_zero]; rfl), Nat.mul_zero, Nat.mul_zero]
        rfl
      · exact (sI_two (fun y k => rd ν 1 (170 + 71 * y + k)) (by omega) Y).symm
    · simp only [q_11_0, q_11_1, q_11_2, q_11_3, q_11_4, q_11_5, q_11_6, q_11_7, q_11_8, q_11_9, q_11_10, q_11_11, if_true, if_false]
      rw [show (6 : Int32).toNatClampNeg = 6 from rfl, show ib 6 415 = true from by decide, if_pos rfl]
      exact oq_mk a2 h
    · simp only [q_12_0, q_12_1, q_12_2, q_12_3, q_12_4, q_12_5, q_12_6, q_12_7, q_12_8, q_12_9, q_12_10, q_12_11, q_12_12, if_true, if_false]
      rw [X_mC a0 hF8 w1 w2 hn, M_mC i0 hF8 w4 w2 hn, bi_some, bi_some]
      exact oq_mk rfl h
    · simp only [q_13_0, q_13_1, q_13_2, q_13_3, q_13_4, q_13_5, q_13_6, q_13_7, q_13_8, q_13_9, q_13_10, q_13_11, q_13_12, q_13_13, if_true, if_false]
      exact oq_mk (h13 rfl) h
    · simp only [q_14_0, q_14_1, q_14_2, q_14_3, q_14_4, q_14_5, q_14_6, q_14_7, q_14_8, q_14_9, q_14_10, q_14_11, q_14_12, q_14_13, q_14_14, if_true, if_false]
      exact oq_mk (h14 rfl) h

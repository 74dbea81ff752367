/-! REFUSALS: each call's answer, the memory as before -/
def FC (μ : hb_m) (F D Y c : Nat) : Prop := (rd μ 0 0 = nI F ∧ rd μ 8 2 = nI D ∧ rd μ 0 10 = nI Y) ∧ (1 ≤ F ∧ F ≤ 8) ∧ (1 ≤ D ∧ D ≤ 20) ∧ Y ≤ 4 ∧ (JJ c μ ∧ nI c ≤ 99999) ∧ (0 ≤ rd μ 5 0 ∧ rd μ 5 0 ≤ 9999 ∧ rd μ 4 0 ≤ rd μ 5 0) ∧ (rd μ 6 0 = 0 ∨ rd μ 6 0 = 1) ∧ (1 ≤ Y → ∃ E, 1 ≤ E ∧ E ≤ D ∧ rd μ 14 2 = nI E)
theorem FC_QF {μ μ' : hb_m} {F D Y c : Nat} (h : FC μ F D Y c) (q : QF μ μ') : FC μ' F D Y c := by
  obtain ⟨⟨a, b, d⟩, e, f, g, ⟨i, j⟩, k, l, m⟩ := h
  refine ⟨⟨by rw [q.2 _ _ (by omega) (by omega)]; exact a, by rw [q.2 _ _ (by omega) (by omega)]; exact b, by rw [q.2 _ _ (by omega) (by omega)]; exact d⟩, e, f, g, ⟨JJ_QF i q, j⟩, ?_, ?_, fun hY => ?_⟩
  · rw [q.2 5 0 (by omega) (by omega), q.2 4 0 (by omega) (by omega)]; exact k
  · rw [q.2 6 0 (by omega) (by omega)]; exact l
  · obtain ⟨E, e1, e2, e3⟩ := m hY
    exact ⟨E, e1, e2, by rw [q.2 14 2 (by omega) (by omega)]; exact e3⟩
theorem FC_of {μ : hb_m} {σ : Nat → Int32} {c : Nat} (h : Sim μ 0 σ) (hJ : JJ c μ) (hc : nI c ≤ 99999) : ∃ F D Y, FC μ F D Y c := by
  obtain ⟨F, D, Y, hi, hr⟩ := h
  obtain ⟨hF8, hD20, hY4⟩ := hi.1
  have a0 : rd μ 0 0 = nI F := hr.1.1
  have b2 : rd μ 8 2 = nI D := hr.2.1.2.2
  have a3 : rd μ 0 10 = nI Y := hr.1.2.2.2
  have F1 : 1 ≤ F := by
    have z := hJ.1.1
    rw [a0, li1, le_ok (by omega) (by omega)] at z
    exact z
  have D1 : 1 ≤ D := by
    have z := hJ.1.2.1
    rw [b2, li1, le_ok (by omega) (by omega)] at z
    exact z
  obtain ⟨-, ⟨i0, i1, i2⟩, iF, iD, iY⟩ := Inv_get hi
  obtain ⟨⟨-, -⟩, rF, rD, rY⟩ := Rep_get (show Rep μ 0 σ F D Y from hr)
  refine ⟨F, D, Y, ⟨a0, b2, a3⟩, ⟨F1, hF8⟩, ⟨D1, hD20⟩, hY4, ⟨hJ, hc⟩, ?_, ?_, fun hY => ?_⟩
  · have r4 := rD.2.1 0 (by omega)
    have r5 := rD.2.2.1 0 (by omega)
    rw [if_pos (by omega)] at r4 r5
    obtain ⟨z1, z2, z3⟩ := iD.2.2.1 0 (by omega)
    obtain ⟨v, w1, -, w2⟩ := rg_get z1
    obtain ⟨u, w3, -, w4⟩ := rg_get z2
    rw [w1, w3, cl_ok (by omega), cl_ok (by omega)] at z3
    rw [r4, r5, w1, w3]
    exact ⟨nI_pos' (by omega), by rw [li9999, le_ok (by omega) (by omega)]; exact w2, by rw [le_ok (by omega) (by omega)]; exact z3⟩
  · have r6 := rD.2.2.2 0 (by omega)
    rw [if_pos (by omega)] at r6
    rw [r6]
    exact iD.2.2.2 0 (by omega)
  · obtain ⟨E, hE, eE, -⟩ := iY.1 0 (by omega)
    have k2 := (rY.1 0 (by omega)).2.2.1
    rw [show 133 + 71 * 0 = 133 from rfl] at eE
    have e14 : rd μ 14 2 = nI E := (show rd μ 14 2 = σ 133 from k2).trans eE
    refine ⟨E, ?_, hE, e14⟩
    rcases hJ.1.2.2 with z | ⟨z, -⟩
    · rw [a3, li0, eq_ok (by omega) (by omega)] at z
      omega
    · rw [e14, li1, le_ok (by omega) (by omega)] at z
      exact z
section REF
variable {n F D Y c : Nat} {μ : hb_m} {p q : Int32}
theorem u_hF (h : FC μ F D Y c) : fX2_hasFlat n 0 0 μ = some (1, μ) := X_hF_y (j := 0) h.1.1 (by have := h.2.1; omega) (by have := h.2.1; omega)
theorem u_hD (h : FC μ F D Y c) : fX4_hasDevice n (0 + 8) 0 μ = some (1, μ) := X_hD_y (j := 0) h.1.2.1 (by have := h.2.2.1; omega) (by have := h.2.2.1; omega)
theorem u_aF (hp : p < 1 ∨ (¬ p < 1 ∧ ¬ p ≤ 200)) : fX5_addFlat n p μ = some (-2, μ) := by
  unfold fX5_addFlat
  rcases hp with h | ⟨h, g⟩
  · rw [if_pos h]
  · rw [if_neg h, if_neg g]
theorem u_aF5 (h : FC μ F D Y c) (hY : 1 ≤ Y) : ∃ r, fX5_addFlat n 5 μ = some (r, μ) ∧ ¬ 0 ≤ r := by
  have hF := h.2.1
  have hY4 := h.2.2.2.1
  unfold fX5_addFlat
  rw [if_neg (by decide), if_pos (by decide), h.1.1, h.1.2.2]
  by_cases e : nI F < (8 : Int32)
  · rw [if_pos e, if_neg (by rw [li0, le_ok (by omega) (by omega)]; omega)]
    exact ⟨_, rfl, by decide⟩
  · rw [if_neg e]
    exact ⟨_, rfl, by decide⟩
theorem u_aDn (h : FC μ F D Y c) (hp : p < 0 ∨ nI F ≤ p) : fX5_addDevice n p q μ = some (-1, μ) := by
  unfold fX5_addDevice
  rw [X_hF_n h.1.1 hp, bi_some, if_pos rfl]
theorem u_aDb (h : FC μ F D Y c) (hq : q < 1 ∨ (¬ q < 1 ∧ ¬ q ≤ 20)) : fX5_addDevice n 0 q μ = some (-2, μ) := by
  unfold fX5_addDevice
  rw [u_hF h, bi_some, if_neg (by decide)]
  rcases hq with h | ⟨h, g⟩
  · rw [if_pos h]
  · rw [if_neg h, if_neg g]
theorem u_setw (hp : p < 0 ∨ (¬ p < 0 ∧ ¬ p < Int32.ofNat 3)) : fX5_set n p q μ = some (-2, μ) := by
  unfold fX5_set
  rcases hp with h | ⟨h, g⟩
  · rw [if_pos h]
  · rw [if_neg h, if_neg g]
theorem u_setv (hp : ¬ p < 0 ∧ p < Int32.ofNat 3 ∧ ib p 3 = true) (hq : q < 0 ∨ (¬ q < 0 ∧ ¬ q ≤ tbX1f p.toNatClampNeg)) : fX5_set n p q μ = some (-2, μ) := by
  unfold fX5_set
  rw [if_neg hp.1, if_pos hp.2.1]
  rcases hq with h | ⟨h, g⟩
  · rw [if_pos h]
  · rw [if_neg h, if_pos hp.2.2, if_neg g]
theorem u_set0 (h : FC μ F D Y c) : fX5_set n 0 (rd μ 8 0) μ = some (-5, μ) := by
  have hJ := h.2.2.2.2.1.1.2.1
  unfold fX5_set fX2_setting
  rw [if_neg (by decide), if_pos (by decide), if_neg (Int32.not_lt.mpr hJ.1), if_pos (by decide), if_pos (show rd μ 8 0 ≤ tbX1f (0 : Int32).toNatClampNeg from Int32.le_trans hJ.2 h.2.2.2.2.1.2), if_pos rfl, bi_some]
  exact if_pos rfl
theorem u_set1 (h : FC μ F D Y c) : fX5_set n 1 (rd μ 8 1) μ = some (-5, μ) := by
  have hJ := h.2.2.2.2.1.1.2.2.1
  unfold fX5_set fX2_setting
  rw [if_neg (by decide), if_pos (by decide), if_neg (Int32.not_lt.mpr hJ.1), if_pos (by decide), if_pos (show rd μ 8 1 ≤ tbX1f (1 : Int32).toNatClampNeg from hJ.2), if_neg (by decide), if_pos rfl, bi_some]
  exact if_pos rfl
theorem u_rdn (h : FC μ F D Y c) (hp : p < 0 ∨ nI D ≤ p) : fX5_read n p q μ = some (-1, μ) := by
  unfold fX5_read
  rw [X_hD_n (show rd μ (0 + 8) 2 = nI D from h.1.2.1) hp, bi_some, if_pos rfl]
theorem u_rdb (h : FC μ F D Y c) (hq : q < 0 ∨ (¬ q < 0 ∧ ¬ q ≤ 9999)) : fX5_read n 0 q μ = some (-2, μ) := by
  unfold fX5_read
  rw [u_hD h, bi_some, if_neg (by decide)]
  rcases hq with h | ⟨h, g⟩
  · rw [if_pos h]
  · rw [if_neg h, if_neg g]
theorem u_rde (h : FC μ F D Y c) : fX5_read n 0 (rd μ 5 0) μ = some (-5, μ) := by
  obtain ⟨k1, k2, k3⟩ := h.2.2.2.2.2.1
  unfold fX5_read
  rw [u_hD h, bi_some, if_neg (by decide), if_neg (Int32.not_lt.mpr k1), if_pos k2, if_pos (by decide), if_pos (show rd μ (0 + 4) (0 : Int32).toNatClampNeg ≤ rd μ 5 0 from k3), if_pos (by decide)]
  exact if_pos rfl
theorem u_dv3 (h : FC μ F D Y c) : fX5_device n 0 3 μ = some (rd μ 5 0, μ) := by
  unfold fX5_device
  rw [u_hD h, bi_some, if_neg (by decide), if_neg (by decide), if_pos (by decide), if_neg (by decide), if_neg (by decide), if_neg (by decide), if_pos (by decide), if_pos (by decide)]
  rfl
theorem u_dv4 (h : FC μ F D Y c) : fX5_device n 0 4 μ = some (rd μ 6 0, μ) := by
  unfold fX5_device
  rw [u_hD h, bi_some, if_neg (by decide), if_neg (by decide), if_pos (by decide), if_neg (by decide), if_neg (by decide), if_neg (by decide), if_neg (by decide), if_pos (by decide), if_pos (by decide)]
  rcases h.2.2.2.2.2.2.1 with z | z
  · rw [if_pos (show rd μ (0 + 6) (0 : Int32).toNatClampNeg = 0 from z), z]
  · rw [if_neg (show ¬ rd μ (0 + 6) (0 : Int32).toNatClampNeg = 0 from fun y => absurd (z.symm.trans y) (by decide)), z]
theorem u_mkn (h : FC μ F D Y c) (hp : p < 0 ∨ nI D ≤ p) : fX5_mark n p q μ = some (-1, μ) := by
  unfold fX5_mark
  rw [X_hD_n (show rd μ (0 + 8) 2 = nI D from h.1.2.1) hp, bi_some, if_pos rfl]
theorem u_mke (h : FC μ F D Y c) (hq : rd μ 6 0 = q) : fX5_mark n 0 q μ = some (-5, μ) := by
  unfold fX5_mark
  rw [u_hD h, bi_some, if_neg (by decide), if_pos (by decide), if_pos (show rd μ (0 + 6) (0 : Int32).toNatClampNeg = q from hq)]
theorem u_mvn (h : FC μ F D Y c) (hp : p < 0 ∨ nI F ≤ p) : fX5_move n p q μ = some (-1, μ) := by
  unfold fX5_move
  rw [X_hF_n h.1.1 hp, bi_some, if_pos rfl]
theorem u_mvb (h : FC μ F D Y c) (hq : q < 1 ∨ (¬ q < 1 ∧ ¬ q < 12)) : fX5_move n 0 q μ = some (-2, μ) := by
  unfold fX5_move
  rw [u_hF h, bi_some, if_neg (by decide)]
  rcases hq with h | ⟨h, g⟩
  · rw [if_pos h]
  · rw [if_neg h, if_neg g]
theorem u_btn (h : FC μ F D Y c) (hp : p < 0 ∨ nI F ≤ p) : fX5_between n p q μ = some (-1, μ) := by
  unfold fX5_between
  rw [X_hF_n h.1.1 hp, bi_some, if_pos rfl]
theorem u_btb (h : FC μ F D Y c) (hq : q < 0 ∨ (¬ q < 0 ∧ ¬ q ≤ 1000)) : fX5_between n 0 q μ = some (-2, μ) := by
  unfold fX5_between
  rw [u_hF h, bi_some, if_neg (by decide)]
  rcases hq with h | ⟨h, g⟩
  · rw [if_pos h]
  · rw [if_neg h, if_neg g]
theorem u_cY0 (h : FC μ F D Y c) (hY : 1 ≤ Y) : fX2_closedYear n 0 0 μ = some (some 14, μ) := X_cY_y (y := 0) h.1.2.2 h.2.2.2.1 hY
theorem u_con {r : Int32} (h : FC μ F D Y c) (hp : p < 0 ∨ nI Y ≤ p) : fX5_correct n p q r μ = some (-1, μ) := by
  unfold fX5_correct
  rw [X_cY_n h.1.2.2 hp, br_none]
theorem u_cod {r : Int32} (h : FC μ F D Y c) (hY : 1 ≤ Y) (hq : q < 0 ∨ nI D ≤ q) : fX5_correct n 0 q r μ = some (-1, μ) := by
  obtain ⟨E, e1, e2, e3⟩ := h.2.2.2.2.2.2.2 hY
  have hD := h.2.2.1
  have hq' : q < 0 ∨ nI E ≤ q := by
    rcases hq with g | g
    · exact Or.inl g
    · exact Or.inr (Int32.le_trans (by rw [le_ok (by omega) (by omega)]; exact e2) g)
  unfold fX5_correct
  rw [u_cY0 h hY, br_some, X_hD_n e3 hq', bi_some, if_pos rfl]
theorem u_hE (h : FC μ F D Y c) (hY : 1 ≤ Y) : fX4_hasDevice n 14 0 μ = some (1, μ) := by
  obtain ⟨E, e1, e2, e3⟩ := h.2.2.2.2.2.2.2 hY
  exact X_hD_y (j := 0) e3 (by have := h.2.2.1; omega) (by omega)
theorem u_cob {r : Int32} (h : FC μ F D Y c) (hY : 1 ≤ Y) (hr : r < 0 ∨ (¬ r < 0 ∧ ¬ r ≤ 199980)) : fX5_correct n 0 0 r μ = some (-2, μ) := by
  unfold fX5_correct
  rw [u_cY0 h hY, br_some, u_hE h hY, bi_some, if_neg (by decide)]
  rcases hr with h | ⟨h, g⟩
  · rw [if_pos h]
  · rw [if_neg h, if_neg g]
theorem u_coe (h : FC μ F D Y c) (hY : 1 ≤ Y) : fX5_correct n 0 0 (rd μ 17 0) μ = some (-5, μ) := by
  have hY4 := h.2.2.2.1
  have hz : 0 ≤ rd μ 17 0 ∧ rd μ 17 0 ≤ 199980 := by
    rcases h.2.2.2.2.1.1.1.2.2 with z | ⟨-, z⟩
    · rw [h.1.2.2, li0, eq_ok (by omega) (by omega)] at z
      omega
    · exact z
  unfold fX5_correct
  rw [u_cY0 h hY, br_some, u_hE h hY, bi_some, if_neg (by decide), if_neg (Int32.not_lt.mpr hz.1), if_pos hz.2, if_pos (by decide)]
  exact if_pos rfl
theorem u_un0 (h : FC μ F D Y c) (hY : 1 ≤ Y) : fX5_units n 0 0 μ = some (rd μ 17 0, μ) := by
  unfold fX5_units
  rw [u_cY0 h hY, br_some, u_hE h hY, bi_some, if_neg (by decide), if_pos (by decide)]
  rfl
theorem u_fln (h : FC μ F D Y c) (hp : p < 0 ∨ nI F ≤ p) : fX5_flat n p q μ = some (-1, μ) := by
  unfold fX5_flat
  rw [X_hF_n h.1.1 hp, bi_some, if_pos rfl]
theorem u_flb (h : FC μ F D Y c) (hq : q < 0 ∨ (¬ q < 0 ∧ ¬ q ≤ 7)) : fX5_flat n 0 q μ = some (-2, μ) := by
  unfold fX5_flat
  rw [u_hF h, bi_some, if_neg (by decide)]
  rcases hq with h | ⟨h, g⟩
  · rw [if_pos h]
  · rw [if_neg h, if_neg g]
theorem u_dvn (h : FC μ F D Y c) (hp : p < 0 ∨ nI D ≤ p) : fX5_device n p q μ = some (-1, μ) := by
  unfold fX5_device
  rw [X_hD_n (show rd μ (0 + 8) 2 = nI D from h.1.2.1) hp, bi_some, if_pos rfl]
theorem u_dvb (h : FC μ F D Y c) (hq : q < 0 ∨ (¬ q < 0 ∧ ¬ q ≤ 5)) : fX5_device n 0 q μ = some (-2, μ) := by
  unfold fX5_device
  rw [u_hD h, bi_some, if_neg (by decide)]
  rcases hq with h | ⟨h, g⟩
  · rw [if_pos h]
  · rw [if_neg h, if_neg g]
theorem u_drn (h : FC μ F D Y c) (hp : p < 0 ∨ nI F ≤ p) : fX5_draft n p q μ = some (-1, μ) := by
  unfold fX5_draft
  rw [X_hF_n h.1.1 hp, bi_some, if_pos rfl]
theorem u_bln {r s : Int32} (h : FC μ F D Y c) (hp : p < 0 ∨ nI Y ≤ p) : fX5_bill n p q r s μ = some (-1, μ) := by
  unfold fX5_bill
  rw [X_cY_n h.1.2.2 hp, br_none]
theorem u_blf {r s : Int32} (h : FC μ F D Y c) (hY : 1 ≤ Y) (hq : q < 0 ∨ nI F ≤ q) : fX5_bill n 0 q r s μ = some (-1, μ) := by
  unfold fX5_bill
  rw [u_cY0 h hY, br_some, X_hF_n h.1.1 hq, bi_some, if_pos rfl]
theorem u_unn (h : FC μ F D Y c) (hp : p < 0 ∨ nI Y ≤ p) : fX5_units n p q μ = some (-1, μ) := by
  unfold fX5_units
  rw [X_cY_n h.1.2.2 hp, br_none]
theorem u_und (h : FC μ F D Y c) (hY : 1 ≤ Y) (hq : q < 0 ∨ nI D ≤ q) : fX5_units n 0 q μ = some (-1, μ) := by
  obtain ⟨E, e1, e2, e3⟩ := h.2.2.2.2.2.2.2 hY
  have hD := h.2.2.1
  have hq' : q < 0 ∨ nI E ≤ q := by
    rcases hq with g | g
    · exact Or.inl g
    · exact Or.inr (Int32.le_trans (by rw [le_ok (by omega) (by omega)]; exact e2) g)
  unfold fX5_units
  rw [u_cY0 h hY, br_some, X_hD_n e3 hq', bi_some, if_pos rfl]
theorem u_grb : fX5_greatest n (-1) μ = some (-2, μ) := by
  unfold fX5_greatest
  rw [if_neg (by decide)]
theorem u_bin (h : FC μ F D Y c) (hp : p < 0 ∨ nI F ≤ p) : fX5_billIf n p q μ = some (-1, μ) := by
  unfold fX5_billIf
  rw [X_hF_n h.1.1 hp, bi_some, if_pos rfl]
theorem u_bib (h : FC μ F D Y c) (hq : q < 0 ∨ (¬ q < 0 ∧ ¬ q ≤ 100)) : fX5_billIf n 0 q μ = some (-2, μ) := by
  unfold fX5_billIf
  rw [u_hF h, bi_some, if_neg (by decide)]
  rcases hq with h | ⟨h, g⟩
  · rw [if_pos h]
  · rw [if_neg h, if_neg g]
theorem u_bsn (h : FC μ F D Y c) (hp : p < 0 ∨ nI F ≤ p) : fX5_bestShare n p μ = some (-1, μ) := by
  unfold fX5_bestShare
  rw [X_hF_n h.1.1 hp, bi_some, if_pos rfl]
theorem u_cnb (hp : ∀ k : Nat, k < 15 → ¬ p = nI k) : fX5_count n p μ = some (-2, μ) := by
  unfold fX5_count
  rw [if_neg (show ¬ p = 0 from hp 0 (by omega)), if_neg (show ¬ p = 1 from hp 1 (by omega)), if_neg (show ¬ p = 2 from hp 2 (by omega)), if_neg (show ¬ p = 3 from hp 3 (by omega)), if_neg (show ¬ p = 4 from hp 4 (by omega)), if_neg (show ¬ p = 5 from hp 5 (by omega)), if_neg (show ¬ p = 6 from hp 6 (by omega)), if_neg (show ¬ p = 7 from hp 7 (by omega)), if_neg (show ¬ p = 8 from hp 8 (by omega)), if_neg (show ¬ p = 9 from hp 9 (by omega)), if_neg (show ¬ p = 10 from hp 10 (by omega)), if_neg (show ¬ p = 11 from hp 11 (by omega)), if_neg (show ¬ p = 12 from hp 12 (by omega)), if_neg (show ¬ p = 13 from hp 13 (by omega)), if_neg (show ¬ p = 14 from hp 14 (by omega))]
theorem cN_self {u : Nat → Int32} {f F : Nat} (hf : f < F) : cN (bf u f) F < F := by
  have h1 : cN (bf u f) F < cN (fun _ => true) F := cN_lt F (fun _ _ _ => rfl) ⟨f, hf, rfl, by rw [bf_iff]; omega⟩
  have h2 := cN_n (p := fun _ => true) F
  omega
theorem u_gr8 {ν : hb_m} (hS : Sim μ 0 (rd ν 1)) (hn : 2147483648 ≤ n) : ∃ μ', fX5_greatest n 8 μ = some (-5, μ') ∧ QF μ μ' := by
  obtain ⟨F, D, Y, μ', ν', hi, hr, e1, e2, hR, hr', -⟩ := Q_open (RQ_rf hS) hn
  have hF8 := hi.1.1
  have h0 : rd μ' 0 0 = nI F := hr'.1.1
  refine ⟨μ', ?_, hR.2.1⟩
  unfold fX5_greatest
  rw [if_pos (by decide), e1, bv_some]
  obtain ⟨s, rfl, ex⟩ := lo (S := hb_m) (fun g i s => lX5_greatest_13 n 8 (fun x2_13 m13 => some (-5, m13)) g (nI i) s) F (fun s => some (-5, s)) (fun i s => s = μ')
    (fun g s hI => by
      subst hI
      rw [lX5_greatest_13]
      rw [h0, if_pos (by rw [le_ok (by omega) (by omega)]; omega)])
    (fun g i s hi' hI => by
      subst hI
      refine ⟨s, rfl, ?_⟩
      rw [lX5_greatest_13]
      have := cN_self (u := rd s 238) hi'
      rw [h0, if_neg (by rw [le_ok (by omega) (by omega)]; omega), X_fA hi' hF8 hn, bi_some, if_neg (by rw [li8, eq_ok (by omega) (by omega)]; omega), li1, nI_add])
    n 0 μ' (by omega) (by omega) rfl
  exact ex
end REF

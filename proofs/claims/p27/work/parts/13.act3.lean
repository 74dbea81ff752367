/-! BOTH SIDES: acts (3) -/
def NR (μ ν : hb_m) (F D Y : Nat) : Prop := Inv (rd ν 1) F D Y ∧ Rep μ 0 (rd ν 1) F D Y
theorem put_end {F D Y d : Nat} {v : Int32} {μ ν : hb_m} (h : NR μ ν F D Y) (hd : d < D) (hv : rg v 0 9999) (hb : (rd ν 1 (33 + 5 * d)).toNatClampNeg ≤ v.toNatClampNeg) : NR (wr μ 5 d v) (wr ν 1 (34 + 5 * d) v) F D Y := by
  obtain ⟨hi, hr⟩ := h
  obtain ⟨hbd, ⟨i0, i1, i2⟩, iF, iD, iY⟩ := Inv_get hi
  obtain ⟨hF8, hD20, hY4⟩ := hbd
  obtain ⟨rS, rF, rD, rY⟩ := Rep_get hr
  have go : ∀ k, k ≠ 34 + 5 * d → rd (wr ν 1 (34 + 5 * d) v) 1 k = rd ν 1 k := fun k h0 => by rw [rd_wr, if_neg (by omega)]
  have gX : ∀ k i, (k ≠ 5 ∨ i ≠ d) → rd (wr μ 5 d v) k i = rd μ k i := fun k i h0 => by rw [rd_wr, if_neg (by omega)]
  have gj : rd (wr ν 1 (34 + 5 * d) v) 1 (34 + 5 * d) = v := by rw [rd_wr, if_pos ⟨rfl, rfl⟩]
  have gi : rd (wr μ 5 d v) 5 d = v := by rw [rd_wr, if_pos ⟨rfl, rfl⟩]
  refine ⟨Inv_mk ⟨hF8, hD20, hY4⟩ ⟨by rw [go _ (by omega)]; exact i0, by rw [go _ (by omega)]; exact i1, by rw [go _ (by omega)]; exact i2⟩ (IF_fr iF hF8 (fun k k1 k2 => go k (by omega))) ⟨fun e he => ?_, fun e he => ?_, fun e he => ?_, fun e he => ?_⟩ (IY_fr iY (Nat.le_refl _) hD20 hF8 (fun y k hy hk => go _ (by omega))), Rep_mk (RS_fr rS (fun k i hk => gX _ _ (by omega)) (fun k hk => go _ (by omega))) (RF_fr rF hF8 (fun k' i' k1 => gX _ _ (by omega)) (fun k k1 k2 => go k (by omega))) ⟨fun e he => ?_, fun e he => ?_, fun e he => ?_, fun e he => ?_⟩ (RY_fr rY hF8 (fun y k' i' hy hk' => gX _ _ (by omega)) (fun y k hy hk => go _ (by omega)) (fun i => gX _ _ (by omega)))⟩
  · rw [go _ (by omega)]; exact iD.1 e he
  · rw [go _ (by omega)]; exact iD.2.1 e he
  · by_cases hde : e = d
    · subst hde
      rw [gj, go _ (by omega)]
      exact ⟨hv, (iD.2.2.1 e he).2.1, hb⟩
    · rw [go _ (by omega), go _ (by omega)]; exact iD.2.2.1 e he
  · rw [go _ (by omega)]; exact iD.2.2.2 e he
  · rw [gX _ _ (by omega), gX _ _ (by omega), go _ (by omega), go _ (by omega)]; exact rD.1 e he
  · rw [gX _ _ (by omega), go _ (by omega)]; exact rD.2.1 e he
  · by_cases hde : e = d
    · subst hde
      rw [gj, gi, if_pos hd]
    · rw [gX _ _ (by omega), go _ (by omega)]; exact rD.2.2.1 e he
  · rw [gX _ _ (by omega), go _ (by omega)]; exact rD.2.2.2 e he
theorem put_flt {F D Y d : Nat} {v : Int32} {μ ν : hb_m} (h : NR μ ν F D Y) (hd : d < D) (hv : v = 0 ∨ v = 1) : NR (wr μ 6 d v) (wr ν 1 (35 + 5 * d) v) F D Y := by
  obtain ⟨hi, hr⟩ := h
  obtain ⟨hbd, ⟨i0, i1, i2⟩, iF, iD, iY⟩ := Inv_get hi
  obtain ⟨hF8, hD20, hY4⟩ := hbd
  obtain ⟨rS, rF, rD, rY⟩ := Rep_get hr
  have go : ∀ k, k ≠ 35 + 5 * d → rd (wr ν 1 (35 + 5 * d) v) 1 k = rd ν 1 k := fun k h0 => by rw [rd_wr, if_neg (by omega)]
  have gX : ∀ k i, (k ≠ 6 ∨ i ≠ d) → rd (wr μ 6 d v) k i = rd μ k i := fun k i h0 => by rw [rd_wr, if_neg (by omega)]
  have gj : rd (wr ν 1 (35 + 5 * d) v) 1 (35 + 5 * d) = v := by rw [rd_wr, if_pos ⟨rfl, rfl⟩]
  have gi : rd (wr μ 6 d v) 6 d = v := by rw [rd_wr, if_pos ⟨rfl, rfl⟩]
  refine ⟨Inv_mk ⟨hF8, hD20, hY4⟩ ⟨by rw [go _ (by omega)]; exact i0, by rw [go _ (by omega)]; exact i1, by rw [go _ (by omega)]; exact i2⟩ (IF_fr iF hF8 (fun k k1 k2 => go k (by omega))) ⟨fun e he => ?_, fun e he => ?_, fun e he => ?_, fun e he => ?_⟩ (IY_fr iY (Nat.le_refl _) hD20 hF8 (fun y k hy hk => go _ (by omega))), Rep_mk (RS_fr rS (fun k i hk => gX _ _ (by omega)) (fun k hk => go _ (by omega))) (RF_fr rF hF8 (fun k' i' k1 => gX _ _ (by omega)) (fun k k1 k2 => go k (by omega))) ⟨fun e he => ?_, fun e he => ?_, fun e he => ?_, fun e he => ?_⟩ (RY_fr rY hF8 (fun y k' i' hy hk' => gX _ _ (by omega)) (fun y k hy hk => go _ (by omega)) (fun i => gX _ _ (by omega)))⟩
  · rw [go _ (by omega)]; exact iD.1 e he
  · rw [go _ (by omega)]; exact iD.2.1 e he
  · rw [go _ (by omega), go _ (by omega)]; exact iD.2.2.1 e he
  · by_cases hde : e = d
    · subst hde
      rw [gj]
      exact hv
    · rw [go _ (by omega)]; exact iD.2.2.2 e he
  · rw [gX _ _ (by omega), gX _ _ (by omega), go _ (by omega), go _ (by omega)]; exact rD.1 e he
  · rw [gX _ _ (by omega), go _ (by omega)]; exact rD.2.1 e he
  · rw [gX _ _ (by omega), go _ (by omega)]; exact rD.2.2.1 e he
  · by_cases hde : e = d
    · subst hde
      rw [gj, gi, if_pos hd]
    · rw [gX _ _ (by omega), go _ (by omega)]; exact rD.2.2.2 e he
theorem put_mo {F D Y f : Nat} {v : Int32} {μ ν : hb_m} (h : NR μ ν F D Y) (hf : f < F) (hv : rg v 1 11) (hz : rd ν 1 (8 + 3 * f) = 0) : NR (wr μ 9 f v) (wr (wr ν 1 (8 + 3 * f) v) 1 (9 + 3 * f) (-5)) F D Y := by
  obtain ⟨hi, hr⟩ := h
  obtain ⟨hbd, ⟨i0, i1, i2⟩, iF, iD, iY⟩ := Inv_get hi
  obtain ⟨hF8, hD20, hY4⟩ := hbd
  obtain ⟨rS, rF, rD, rY⟩ := Rep_get hr
  have go : ∀ k, k ≠ 8 + 3 * f → k ≠ 9 + 3 * f → rd (wr (wr ν 1 (8 + 3 * f) v) 1 (9 + 3 * f) (-5)) 1 k = rd ν 1 k := fun k h0 h1 => by rw [rd_wr, if_neg (by omega), rd_wr, if_neg (by omega)]
  have gX : ∀ k i, (k ≠ 9 ∨ i ≠ f) → rd (wr μ 9 f v) k i = rd μ k i := fun k i h0 => by rw [rd_wr, if_neg (by omega)]
  have gj : rd (wr (wr ν 1 (8 + 3 * f) v) 1 (9 + 3 * f) (-5)) 1 (8 + 3 * f) = v := by rw [rd_wr, if_neg (by omega), rd_wr, if_pos ⟨rfl, rfl⟩]
  have gp : rd (wr (wr ν 1 (8 + 3 * f) v) 1 (9 + 3 * f) (-5)) 1 (9 + 3 * f) = -5 := by rw [rd_wr, if_pos ⟨rfl, rfl⟩]
  have gi : rd (wr μ 9 f v) 9 f = v := by rw [rd_wr, if_pos ⟨rfl, rfl⟩]
  have hvn : ¬ v = 0 := by
    obtain ⟨e, h1, h2⟩ := hv
    rw [e, li0, eq_ok (by omega) (by omega)]
    omega
  refine ⟨Inv_mk ⟨hF8, hD20, hY4⟩ ⟨by rw [go _ (by omega) (by omega)]; exact i0, by rw [go _ (by omega) (by omega)]; exact i1, by rw [go _ (by omega) (by omega)]; exact i2⟩ ⟨fun g hg => ?_, fun g hg => ?_, fun g hg => ?_⟩ (ID_fr iD (Nat.le_refl _) hD20 (fun k k1 k2 => go k (by omega) (by omega))) (IY_fr iY (Nat.le_refl _) hD20 hF8 (fun y k hy hk => go _ (by omega) (by omega))), Rep_mk (RS_fr rS (fun k i hk => gX _ _ (by omega)) (fun k hk => go _ (by omega) (by omega))) ⟨fun g hg => ?_, fun g hg => ?_, fun g hg => ?_⟩ (RD_fr rD hD20 (fun k' i' k1 k2 => gX _ _ (by omega)) (fun k k1 k2 => go k (by omega) (by omega))) (RY_fr rY hF8 (fun y k' i' hy hk' => gX _ _ (by omega)) (fun y k hy hk => go _ (by omega) (by omega)) (fun i => gX _ _ (by omega)))⟩
  · rw [go _ (by omega) (by omega)]; exact iF.1 g hg
  · by_cases e : g = f
    · subst e
      rw [gj]
      exact ⟨hv.1, by omega, hv.2.2⟩
    · rw [go _ (by omega) (by omega)]; exact iF.2.1 g hg
  · by_cases e : g = f
    · subst e
      exact fun _ => gp
    · rw [go _ (by omega) (by omega), go _ (by omega) (by omega)]; exact iF.2.2 g hg
  · rw [gX _ _ (by omega), go _ (by omega) (by omega)]; exact rF.1 g hg
  · by_cases e : g = f
    · subst e
      rw [gi, gj, if_pos ⟨hf, hvn⟩]
    · rw [gX _ _ (by omega), go _ (by omega) (by omega)]; exact rF.2.1 g hg
  · rw [gX _ _ (by omega)]
    by_cases e : g = f
    · subst e
      rw [gp, if_pos hf]
      exact (rF.2.2 g hg).trans (by rw [if_pos hf]; exact iF.2.2 g hf hz)
    · rw [go _ (by omega) (by omega)]; exact rF.2.2 g hg
theorem put_pt {F D Y f : Nat} {v : Int32} {μ ν : hb_m} (h : NR μ ν F D Y) (hf : f < F) (hz : ¬ rd ν 1 (8 + 3 * f) = 0) : NR (wr μ 10 f v) (wr ν 1 (9 + 3 * f) v) F D Y := by
  obtain ⟨hi, hr⟩ := h
  obtain ⟨hbd, ⟨i0, i1, i2⟩, iF, iD, iY⟩ := Inv_get hi
  obtain ⟨hF8, hD20, hY4⟩ := hbd
  obtain ⟨rS, rF, rD, rY⟩ := Rep_get hr
  have go : ∀ k, k ≠ 9 + 3 * f → rd (wr ν 1 (9 + 3 * f) v) 1 k = rd ν 1 k := fun k h1 => by rw [rd_wr, if_neg (by omega)]
  have gX : ∀ k i, (k ≠ 10 ∨ i ≠ f) → rd (wr μ 10 f v) k i = rd μ k i := fun k i h0 => by rw [rd_wr, if_neg (by omega)]
  have gp : rd (wr ν 1 (9 + 3 * f) v) 1 (9 + 3 * f) = v := by rw [rd_wr, if_pos ⟨rfl, rfl⟩]
  have gi : rd (wr μ 10 f v) 10 f = v := by rw [rd_wr, if_pos ⟨rfl, rfl⟩]
  refine ⟨Inv_mk ⟨hF8, hD20, hY4⟩ ⟨by rw [go _ (by omega)]; exact i0, by rw [go _ (by omega)]; exact i1, by rw [go _ (by omega)]; exact i2⟩ ⟨fun g hg => ?_, fun g hg => ?_, fun g hg => ?_⟩ (ID_fr iD (Nat.le_refl _) hD20 (fun k k1 k2 => go k (by omega))) (IY_fr iY (Nat.le_refl _) hD20 hF8 (fun y k hy hk => go _ (by omega))), Rep_mk (RS_fr rS (fun k i hk => gX _ _ (by omega)) (fun k hk => go _ (by omega))) ⟨fun g hg => ?_, fun g hg => ?_, fun g hg => ?_⟩ (RD_fr rD hD20 (fun k' i' k1 k2 => gX _ _ (by omega)) (fun k k1 k2 => go k (by omega))) (RY_fr rY hF8 (fun y k' i' hy hk' => gX _ _ (by omega)) (fun y k hy hk => go _ (by omega)) (fun i => gX _ _ (by omega)))⟩
  · rw [go _ (by omega)]; exact iF.1 g hg
  · rw [go _ (by omega)]; exact iF.2.1 g hg
  · by_cases e : g = f
    · subst e
      rw [go _ (by omega)]
      exact fun q => absurd q hz
    · rw [go _ (by omega), go _ (by omega)]; exact iF.2.2 g hg
  · rw [gX _ _ (by omega), go _ (by omega)]; exact rF.1 g hg
  · rw [gX _ _ (by omega), go _ (by omega)]; exact rF.2.1 g hg
  · by_cases e : g = f
    · subst e
      rw [gi, gp, if_pos hf]
    · rw [gX _ _ (by omega), go _ (by omega)]; exact rF.2.2 g hg
theorem RR_NR {F D Y : Nat} {μ μ' ν ν' : hb_m} (h : RR μ ν) (h1 : fX μ μ') (h2 : fM ν ν') (h3 : NR μ' ν' F D Y) : RR μ' ν' := RR_now h h1 h2 ⟨F, D, Y, h3.1, h3.2⟩
theorem fX_wr {μ : hb_m} {k i : Nat} {v : Int32} (h : k < 38) : fX μ (wr μ k i v) := fun k' i' hk => by rw [rd_wr, if_neg (by omega)]
theorem fM_wr {ν : hb_m} {i : Nat} {v : Int32} : fM ν (wr ν 1 i v) := fun k' i' hk => by rw [rd_wr, if_neg (by omega)]
theorem A_mark {n c : Nat} {p1 p2 : Int32} {μ ν : hb_m} (h : RR μ ν) (hp2 : p2 = 0 ∨ p2 = 1) (hn : 2147483648 ≤ n) : Ac n c μ (fX5_mark n p1 p2 μ) (fX6_mark n p1 p2 ν) := by
  obtain ⟨F, D, Y, hi, hr⟩ := id h.1
  have hD20 := hi.1.2.1
  obtain ⟨-, ⟨i0, i1, i2⟩, iF, iD, iY⟩ := Inv_get hi
  obtain ⟨⟨⟨a0, a1, a2, a3⟩, ⟨b0, b1, b2⟩⟩, rF, rD, rY⟩ := Rep_get hr
  unfold fX5_mark fX6_mark
  rcases ix_cases p1 D (by omega) with hp | ⟨d, hd, rfl⟩
  · rw [X_hD_n b2 hp, M_isD_n i1 (by omega) hp, bi_some, bi_some]
    simp only [e00, if_true]
    exact ac_no rfl h (by decide)
  · rw [X_hD_y b2 (by omega) hd, M_isD_y i1 (by omega) hd, bi_some, bi_some]
    simp only [e10, if_false]
    have r6 := rD.2.2.2 d (by omega)
    rw [if_pos hd] at r6
    rw [ib_ok (show d < 20 by omega) (by omega), cl_ok (by omega), show (4 : Int32) = nI 4 from rfl, M_of (by omega), bi_some, show rd μ (0 + 6) d = rd ν 1 (35 + 5 * d) from r6, show 31 + 5 * d + 4 = 35 + 5 * d by omega]
    simp only [if_true]
    obtain ⟨μ1, ν1, e1, e2, hR, hm, hr1, x, m⟩ := A_act h hr hi hn
    have hN : NR μ1 ν1 F D Y := by
      rw [← hm] at hi hr1
      exact ⟨hi, hr1⟩
    have hN2 := put_flt hN hd hp2
    obtain ⟨⟨-, ⟨j0, j1, j2⟩, jF, jD, jY⟩, ⟨⟨⟨c0, c1, c2, c3⟩, ⟨d0, d1, d2⟩⟩, qF, qD, qY⟩⟩ := And.intro (Inv_get hN2.1) (Rep_get hN2.2)
    have hR2 := RR_NR hR (fX_wr (by omega)) fM_wr hN2
    have x1 := X_fC (n := n) (B := 0) (D := D) (ρ := rd (wr ν1 1 (35 + 5 * d) p2) 1) (μ := wr μ1 6 d p2) d2 hD20 (fun e he => (qD.2.2.2 e (by omega)).trans (if_pos he)) jD.2.2.2 hn
    have x2 := M_fC (n := n) (ν := wr ν1 1 (35 + 5 * d) p2) j1 hD20 hn
    have en : vp_nar .boolean p2 = p2 := by rcases hp2 with z | z <;> rw [z] <;> rfl
    rw [en]
    by_cases he : rd ν 1 (35 + 5 * d) = p2
    · rw [if_pos he]
      rcases hp2 with z | z
      · rw [z] at he
        rw [z, if_pos rfl, if_pos he]
        exact ac_no rfl h (by decide)
      · rw [z] at he
        rw [z, if_neg (show ¬ (1 : Int32) = 0 by decide), if_pos he]
        exact ac_no rfl h (by decide)
    · rw [if_neg he, e1, bv_some, x1, bi_some, e2]
      rcases hp2 with z | z
      · subst z
        simp only [if_true, he, if_false, bv_some]
        rw [M_puts (by omega), bv_some, show 31 + 5 * d + 4 = 35 + 5 * d by omega, x2, bi_some]
        exact ac_ok rfl hR2 (s01_pos hD20 jD.2.2.2) e1 x (fX_wr (by omega)) (fun q => JJ_eq q (fun k i hk => by rw [rd_wr, if_neg (by unfold jk at hk; omega)]))
      · subst z
        simp only [e10, if_false, he, bv_some]
        rw [M_puts (by omega), bv_some, show 31 + 5 * d + 4 = 35 + 5 * d by omega, x2, bi_some]
        exact ac_ok rfl hR2 (s01_pos hD20 jD.2.2.2) e1 x (fX_wr (by omega)) (fun q => JJ_eq q (fun k i hk => by rw [rd_wr, if_neg (by unfold jk at hk; omega)]))
theorem O_mark {n : Nat} {p1 p2 : Int32} {μ ν : hb_m} (h : RR μ ν) (hp2 : p2 = 0 ∨ p2 = 1) (hn : 2147483648 ≤ n) : Op (fX5_mark n p1 p2 μ) (fX6_mark n p1 p2 ν) := Ac_op (A_mark (c := 0) h hp2 hn)
theorem A_read {n c : Nat} {p1 p2 : Int32} {μ ν : hb_m} (h : RR μ ν) (hn : 2147483648 ≤ n) : Ac n c μ (fX5_read n p1 p2 μ) (fX6_read n p1 p2 ν) := by
  obtain ⟨F, D, Y, hi, hr⟩ := id h.1
  have hD20 := hi.1.2.1
  have hY4 := hi.1.2.2
  obtain ⟨-, ⟨i0, i1, i2⟩, iF, iD, iY⟩ := Inv_get hi
  obtain ⟨⟨⟨a0, a1, a2, a3⟩, ⟨b0, b1, b2⟩⟩, rF, rD, rY⟩ := Rep_get hr
  unfold fX5_read fX6_read
  rcases ix_cases p1 D (by omega) with hp | ⟨d, hd, rfl⟩
  · rw [X_hD_n b2 hp, M_isD_n i1 (by omega) hp, bi_some, bi_some]
    simp only [e00, if_true]
    exact ac_no rfl h (by decide)
  · rw [X_hD_y b2 (by omega) hd, M_isD_y i1 (by omega) hd, bi_some, bi_some]
    simp only [e10, if_false]
    rw [M_in, bi_some]
    rcases in_cases p2 0 9999 with ⟨c1, c2⟩ | ⟨c1, c2, c3⟩ | ⟨c1, c2, c3⟩
    · rw [if_pos c1, if_neg c2, if_pos (show (0 : Int32) = 0 from rfl)]
      exact ac_no rfl h (by decide)
    · rw [if_neg c1, if_neg c2, if_neg c3, if_pos (show (0 : Int32) = 0 from rfl)]
      exact ac_no rfl h (by decide)
    · rw [if_neg c1, if_pos c2, if_pos c3]
      simp only [e10, if_false]
      have r4 := rD.2.1 d (by omega)
      have r5 := rD.2.2.1 d (by omega)
      rw [if_pos hd] at r4 r5
      rw [ib_ok (show d < 20 by omega) (by omega), cl_ok (by omega), show (2 : Int32) = nI 2 from rfl, M_of (by omega), bi_some, show rd μ (0 + 4) d = rd ν 1 (33 + 5 * d) from r4, show 31 + 5 * d + 2 = 33 + 5 * d by omega]
      simp only [if_true]
      by_cases hle : rd ν 1 (33 + 5 * d) ≤ p2
      · rw [if_pos hle, if_pos hle, show (3 : Int32) = nI 3 from rfl, M_of (by omega), bi_some, show rd μ (0 + 5) d = rd ν 1 (34 + 5 * d) from r5, show 31 + 5 * d + 3 = 34 + 5 * d by omega]
        by_cases heq : p2 = rd ν 1 (34 + 5 * d)
        · rw [if_pos heq, if_pos heq]
          exact ac_no rfl h (by decide)
        · rw [if_neg heq, if_neg heq]
          obtain ⟨μ1, ν1, e1, e2, hR, hm, hr1, x, m⟩ := A_act h hr hi hn
          have hpr : rg p2 0 9999 := rg_of c3.1 c3.2 (by omega) (by omega)
          have hbg : (rd ν1 1 (33 + 5 * d)).toNatClampNeg ≤ p2.toNatClampNeg := by
            rw [hm]
            obtain ⟨-, ⟨z1, -, z2⟩, -⟩ := iD.2.2.1 d hd
            obtain ⟨z3, -, z4⟩ := hpr
            rw [z1, z3, le_ok (by omega) (by omega)] at hle
            exact hle
          have hN : NR μ1 ν1 F D Y := by
            rw [← hm] at hi hr1
            exact ⟨hi, hr1⟩
          have hN2 := put_end hN hd hpr hbg
          obtain ⟨-, ⟨j0, j1, j2⟩, jF, jD, jY⟩ := Inv_get hN2.1
          have hR2 := RR_NR hR (fX_wr (by omega)) fM_wr hN2
          obtain ⟨μ3, e3, s3, g3⟩ := X_cU (n := n) (B := 0) hx_H0 hN2.1 hN2.2 hn
          have hR3 : RR μ3 (wr ν1 1 (34 + 5 * d) p2) := RR_q hR2 (fX_sx s3 (by intro k hk; simp; omega)) fM_rf (fun k i hk1 hk2 => (s3 k (by simp; omega)).1 i) (fun _ => rfl)
          rw [e1, e2, bv_some, bv_some, M_puts (by omega), bv_some, show 31 + 5 * d + 3 = 34 + 5 * d by omega]
          rw [show 0 + 5 = 5 from rfl, e3, bv_some, g3 d hd, M_uN j1 hD20 j2 hY4 (by omega) hn, bi_some]
          exact ac_ok rfl hR3 (rg_pos (uN_b hN2.1 hd)) e1 x (fX_tr (fX_wr (by omega)) (fX_sx s3 (by intro k hk; simp; omega))) (fun q => JJ_eq q (fun k i hk => by rw [(s3 k (by unfold jk at hk; simp; omega)).1 i, rd_wr, if_neg (by unfold jk at hk; omega)]))
      · rw [if_neg hle, if_neg hle]
        exact ac_no rfl h (by decide)
theorem O_read {n : Nat} {p1 p2 : Int32} {μ ν : hb_m} (h : RR μ ν) (hn : 2147483648 ≤ n) : Op (fX5_read n p1 p2 μ) (fX6_read n p1 p2 ν) := Ac_op (A_read (c := 0) h hn)
theorem A_move {n c : Nat} {p1 p2 : Int32} {μ ν : hb_m} (h : RR μ ν) (hn : 2147483648 ≤ n) : Ac n c μ (fX5_move n p1 p2 μ) (fX6_move n p1 p2 ν) := by
  obtain ⟨F, D, Y, hi, hr⟩ := id h.1
  have hF8 := hi.1.1
  obtain ⟨-, ⟨i0, i1, i2⟩, iF, iD, iY⟩ := Inv_get hi
  obtain ⟨⟨⟨a0, a1, a2, a3⟩, ⟨b0, b1, b2⟩⟩, rF, rD, rY⟩ := Rep_get hr
  unfold fX5_move fX6_move
  rcases ix_cases p1 F (by omega) with hp | ⟨f, hf, rfl⟩
  · rw [X_hF_n a0 hp, M_isF_n i0 (by omega) hp, bi_some, bi_some]
    simp only [e00, if_true]
    exact ac_no rfl h (by decide)
  · rw [X_hF_y a0 (by omega) hf, M_isF_y i0 (by omega) hf, bi_some, bi_some]
    simp only [e10, if_false]
    rw [M_in, bi_some]
    have h12 : (p2 ≤ 11) = (p2 < 12) := by
      apply propext
      by_cases h0 : p2 < 0
      · have q1 : p2 ≤ 11 := Int32.le_trans (Int32.le_of_lt h0) (by decide)
        have q2 : p2 < 12 := Int32.lt_of_lt_of_le h0 (by decide)
        exact ⟨fun _ => q2, fun _ => q1⟩
      · obtain ⟨j, hj, rfl⟩ := nI_of h0
        rw [li11, li12, le_ok (by omega) (by omega), lt_ok (by omega) (by omega)]
        omega
    rcases in_cases p2 1 11 with ⟨c1, c2⟩ | ⟨c1, c2, c3⟩ | ⟨c1, c2, c3⟩
    · rw [if_pos c1, if_neg c2, if_pos (show (0 : Int32) = 0 from rfl)]
      exact ac_no rfl h (by decide)
    · rw [if_neg c3, if_pos (show (0 : Int32) = 0 from rfl)]
      rw [h12] at c2
      rw [if_neg c1, if_neg c2]
      exact ac_no rfl h (by decide)
    · rw [if_pos c3]
      have hpr : rg p2 1 11 := rg_of c3.1 c3.2 (by omega) (by omega)
      rw [h12] at c2
      rw [if_neg c1, if_pos c2]
      simp only [e10, if_false]
      have r9 := rF.2.1 f (by omega)
      obtain ⟨z1, -, z2⟩ := iF.2.1 f hf
      rw [X_hasMove (by omega), bi_some, show (1 : Int32) = nI 1 from rfl, M_ofFlat (by omega), bi_some, show 7 + 3 * f + 1 = 8 + 3 * f by omega]
      by_cases hz : rd ν 1 (8 + 3 * f) = 0
      · have r9' : rd μ (0 + 8 + 1) f = -5 := r9.trans (if_neg (fun q => q.2 hz))
        rw [r9', if_pos (show (-5 : Int32) = -5 from rfl), if_pos (show (0 : Int32) = 0 from rfl), if_pos (show rd ν 1 (8 + 3 * f) ≤ 0 by rw [hz]; decide)]
        obtain ⟨μ1, ν1, e1, e2, hR, hm, hr1, x, m⟩ := A_act h hr hi hn
        have hN : NR μ1 ν1 F D Y := by
          rw [← hm] at hi hr1
          exact ⟨hi, hr1⟩
        have hN2 := put_mo hN hf hpr (by rw [hm]; exact hz)
        have hR2 := RR_NR hR (fX_wr (by omega)) (fM_tr fM_wr fM_wr) hN2
        obtain ⟨z3, -, z4⟩ := hpr
        rw [e1, e2, bv_some, bv_some, ib_ok (show f < 8 by omega) (by omega), if_pos rfl, cl_ok (by omega), show (7 : Int32) = nI 7 from rfl, show (3 : Int32) = nI 3 from rfl, show (2 : Int32) = nI 2 from rfl, pk_mul, nI_add, nI_add, nI_add, ib_ok (by omega) (by omega), ib_ok (by omega) (by omega), if_pos rfl, if_pos rfl, cl_ok (by omega), cl_ok (by omega), show 7 + 3 * f + 1 = 8 + 3 * f by omega, show 7 + 3 * f + 2 = 9 + 3 * f by omega]
        rw [z3, X_wA (by omega) hn, M_wA (by omega) hn, bi_some, bi_some, ← z3]
        exact ac_ok rfl hR2 (wA_pos z4) e1 x (fX_wr (by omega)) (fun q => JJ_eq q (fun k i hk => by rw [rd_wr, if_neg (by unfold jk at hk; omega)]))
      · have hne : ¬ rd ν 1 (8 + 3 * f) = -5 := fun q => by
          rw [z1, neg_ne (by omega)] at q
          exact q
        have hle : ¬ rd ν 1 (8 + 3 * f) ≤ 0 := by
          intro q
          apply hz
          rw [z1, li0, le_ok (by omega) (by omega)] at q
          rw [z1, show (rd ν 1 (8 + 3 * f)).toNatClampNeg = 0 by omega]
          rfl
        have r9' : rd μ (0 + 8 + 1) f = rd ν 1 (8 + 3 * f) := r9.trans (if_pos ⟨hf, hz⟩)
        rw [r9', if_neg hne, if_neg hle]
        simp only [show ¬ nI 1 = 0 by decide, if_false]
        exact ac_no rfl h (by decide)
theorem O_move {n : Nat} {p1 p2 : Int32} {μ ν : hb_m} (h : RR μ ν) (hn : 2147483648 ≤ n) : Op (fX5_move n p1 p2 μ) (fX6_move n p1 p2 ν) := Ac_op (A_move (c := 0) h hn)
theorem A_between {n c : Nat} {p1 p2 : Int32} {μ ν : hb_m} (h : RR μ ν) (hn : 2147483648 ≤ n) : Ac n c μ (fX5_between n p1 p2 μ) (fX6_between n p1 p2 ν) := by
  obtain ⟨F, D, Y, hi, hr⟩ := id h.1
  have hF8 := hi.1.1
  obtain ⟨-, ⟨i0, i1, i2⟩, iF, iD, iY⟩ := Inv_get hi
  obtain ⟨⟨⟨a0, a1, a2, a3⟩, ⟨b0, b1, b2⟩⟩, rF, rD, rY⟩ := Rep_get hr
  unfold fX5_between fX6_between
  rcases ix_cases p1 F (by omega) with hp | ⟨f, hf, rfl⟩
  · rw [X_hF_n a0 hp, M_isF_n i0 (by omega) hp, bi_some, bi_some]
    simp only [e00, if_true]
    exact ac_no rfl h (by decide)
  · rw [X_hF_y a0 (by omega) hf, M_isF_y i0 (by omega) hf, bi_some, bi_some]
    simp only [e10, if_false]
    rw [M_in, bi_some]
    rcases in_cases p2 0 1000 with ⟨c1, c2⟩ | ⟨c1, c2, c3⟩ | ⟨c1, c2, c3⟩
    · rw [if_pos c1, if_neg c2, if_pos (show (0 : Int32) = 0 from rfl)]
      exact ac_no rfl h (by decide)
    · rw [if_neg c1, if_neg c2, if_neg c3, if_pos (show (0 : Int32) = 0 from rfl)]
      exact ac_no rfl h (by decide)
    · rw [if_neg c1, if_pos c2, if_pos c3]
      simp only [e10, if_false]
      have r9 := rF.2.1 f (by omega)
      have r10 := rF.2.2 f (by omega)
      rw [if_pos hf] at r10
      obtain ⟨z1, -, z2⟩ := iF.2.1 f hf
      rw [X_hasMove (by omega), bi_some, show (1 : Int32) = nI 1 from rfl, M_ofFlat (by omega), bi_some, show 7 + 3 * f + 1 = 8 + 3 * f by omega]
      by_cases hz : rd ν 1 (8 + 3 * f) = 0
      · have r9' : rd μ (0 + 8 + 1) f = -5 := r9.trans (if_neg (fun q => q.2 hz))
        rw [r9', if_pos (show (-5 : Int32) = -5 from rfl), if_pos (show (0 : Int32) = 0 from rfl), if_pos hz]
        exact ac_no rfl h (by decide)
      · have hne : ¬ rd ν 1 (8 + 3 * f) = -5 := fun q => by
          rw [z1, neg_ne (by omega)] at q
          exact q
        have r9' : rd μ (0 + 8 + 1) f = rd ν 1 (8 + 3 * f) := r9.trans (if_pos ⟨hf, hz⟩)
        rw [r9', if_neg hne, if_neg hz]
        simp only [show ¬ nI 1 = 0 by decide, if_false]
        rw [ib_ok (show f < 8 by omega) (by omega), cl_ok (by omega), show (2 : Int32) = nI 2 from rfl, M_ofFlat (by omega), bi_some, show rd μ (0 + 8 + 2) f = _ from r10, show 7 + 3 * f + 2 = 9 + 3 * f by omega]
        simp only [if_true]
        by_cases heq : rd ν 1 (9 + 3 * f) = p2
        · rw [if_pos heq, if_pos heq]
          exact ac_no rfl h (by decide)
        · rw [if_neg heq, if_neg heq]
          obtain ⟨μ1, ν1, e1, e2, hR, hm, hr1, x, m⟩ := A_act h hr hi hn
          have hN : NR μ1 ν1 F D Y := by
            rw [← hm] at hi hr1
            exact ⟨hi, hr1⟩
          have hN2 := put_pt (v := p2) hN hf (by rw [hm]; exact hz)
          have hR2 := RR_NR hR (fX_wr (by omega)) fM_wr hN2
          rw [e1, e2, bv_some, bv_some, show (7 : Int32) = nI 7 from rfl, show (3 : Int32) = nI 3 from rfl, pk_mul, nI_add, nI_add, ib_ok (by omega) (by omega), if_pos rfl, cl_ok (by omega), show 7 + 3 * f + 2 = 9 + 3 * f by omega]
          by_cases h5 : rd ν 1 (9 + 3 * f) = -5
          · rw [if_pos h5, if_pos h5]
            exact ac_ok rfl hR2 (by decide) e1 x (fX_wr (by omega)) (fun q => JJ_eq q (fun k i hk => by rw [rd_wr, if_neg (by unfold jk at hk; omega)]))
          · rw [if_neg h5, if_neg h5]
            exact ac_ok rfl hR2 (by decide) e1 x (fX_wr (by omega)) (fun q => JJ_eq q (fun k i hk => by rw [rd_wr, if_neg (by unfold jk at hk; omega)]))
theorem O_between {n : Nat} {p1 p2 : Int32} {μ ν : hb_m} (h : RR μ ν) (hn : 2147483648 ≤ n) : Op (fX5_between n p1 p2 μ) (fX6_between n p1 p2 ν) := Ac_op (A_between (c := 0) h hn)

/-! THE LAW'S LOOP -/
theorem RR_QF {μ μ' ν : hb_m} (h : RR μ ν) (q : QF μ μ') : RR μ' ν := RR_q h q.1 fM_rf q.2 (fun _ => rfl)
theorem and7 (x : Int32) : ∃ j, j < 2147483648 ∧ x &&& 2147483647 = nI j := by
  refine ⟨(x &&& 2147483647).toBitVec.toNat, ?_, ?_⟩
  · have h : (x &&& 2147483647).toBitVec = x.toBitVec &&& 2147483647#32 := rfl
    rw [h, BitVec.toNat_and]
    exact Nat.lt_of_le_of_lt Nat.and_le_right (by decide)
  · apply Int32.toBitVec_inj.mp
    show _ = BitVec.ofNat 32 _
    rw [BitVec.ofNat_toNat, BitVec.setWidth_eq]
theorem part_1 {n : Nat} {v q : Int32} {μ : hb_m} (Q : Nat) (hq : q = nI Q) (h0 : 0 < Q) (hQ : Q < 2147483648) : ∃ j, j < Q ∧ fL_part n v q μ = some (nI j, μ) := by
  obtain ⟨w, hw, ew⟩ := and7 v
  subst hq
  refine ⟨w % Q, Nat.mod_lt _ h0, ?_⟩
  unfold fL_part
  rw [if_neg (by rw [li0, eq_ok (by omega) (by omega)]; omega), ew, pk_rem hw h0 hQ]
def LI (n a : Nat) (μ : hb_m) (w : Nat → Int64) : Prop := ∃ ν HH h, RR μ ν ∧ JJ 89 μ ∧ HR μ h HH ∧ 2 ≤ h ∧ ∀ j, j < a → DG n (HH j) (w (a - 1 - j))
theorem law_join {n : Nat} {dr : Int32 → Int32} {kk : Int32 → Int32 → lm → Option Int32} {i a h : Nat} {m ν μ' : hb_m} {HH : Nat → Nat → Int32} {h0 : Int64} {w w' : Nat → Int64} {r : Int32} {x y : Option (Int32 × hb_m)} (hn : 2147483648 ≤ n) (hi : i < 30) (ha : a ≤ i) (hR : RR m ν) (hJ : JJ 89 m) (hH : HR m h HH) (h2 : 2 ≤ h) (hD : DG n (rd ν 1) h0) (hw : ∀ j, j < a → DG n (HH j) (w (a - 1 - j))) (hwa : w' a = h0) (hwo : ∀ j, j ≠ a → w' j = w j) (hA : Ac n 89 m x y) (hx : x = some (r, μ')) : ∃ a' μ'', a' ≤ a + 1 ∧ LI n a' μ'' w' ∧ jL_law_375 n dr kk (nI i) (nI a) (rd m 229 2) r (μ', w') = kk (nI (i + 1)) (nI a') (μ'', w') := by
  obtain ⟨r2, μ2, ν2, e1, e2, hR2, hc⟩ := hA
  rw [hx] at e1
  cases e1
  unfold jL_law_375
  dsimp only
  rcases hc with ⟨hneg, hE⟩ | ⟨hpos, ⟨μ1, e3, f⟩, hJ'⟩
  · have hlt : ¬ 0 ≤ r := Int32.not_le.mpr hneg
    subst hE
    obtain ⟨m4, e4, q4⟩ := hD μ' hR.1
    refine ⟨a, m4, by omega, ⟨ν, HH, h, RR_QF hR q4, JJ_QF hJ q4, HR_fX hH q4.1, h2, fun j hj => ?_⟩, ?_⟩
    · rw [hwo _ (by omega)]
      exact hw j hj
    · rw [if_neg hlt, cn13, bi_some, if_pos rfl, e4, bl_some, ib_ok (show a < 64 by omega) (by omega), if_pos rfl, if_pos (show lg_cmp h0 (w' (nI a).toNatClampNeg) = 0 by rw [cl_ok (by omega), hwa]; exact (lg_cmp_eq h0 h0).mpr rfl), if_neg hlt, Int32.add_zero, li1, nI_add]
  · refine ⟨a + 1, μ', by omega, ⟨ν2, cons1 (rd ν 1) HH, _, hR2, hJ' hJ, HR_fX (HR_push hR.1 hH hn e3).1 f, by split <;> omega, fun j hj => ?_⟩, ?_⟩
    · unfold cons1
      by_cases j0 : j = 0
      · subst j0
        rw [if_pos rfl, show a + 1 - 1 - 0 = a by omega, hwa]
        exact hD
      · rw [if_neg j0, hwo _ (by omega), show a + 1 - 1 - j = a - 1 - (j - 1) by omega]
        exact hw (j - 1) (by omega)
    · rw [if_pos hpos, if_pos hpos, li1, nI_add, nI_add]
set_option maxHeartbeats 4000000 in
theorem law_loop {n : Nat} {dr : Int32 → Int32} {k : Int32 → Int32 → lm → Option Int32} (hn : 2147483648 ≤ n) : ∀ (f i a : Nat) (μ : hb_m) (w : Nat → Int64), i ≤ 30 → 30 < i + f → a ≤ i → LI n a μ w → ∃ a' μ' w', a' ≤ 30 ∧ LI n a' μ' w' ∧ lL_law_52 n dr k f (nI i) (nI a) (μ, w) = k (nI 30) (nI a') (μ', w')
  | 0, i, a, μ, w, h1, h2, h3, hI => by omega
  | f + 1, i, a, μ, w, h1, h2, h3, hI => by
    rw [lL_law_52]
    by_cases e : i = 30
    · subst e
      rw [if_pos (by decide)]
      exact ⟨a, μ, w, h3, hI, rfl⟩
    rw [if_neg (show ¬ (30 : Int32) ≤ nI i by rw [show (30 : Int32) = nI 30 from rfl, le_ok (by omega) (by omega)]; omega), if_pos (nI_pos' (show i < 2147483648 by omega)), bn_some]
    dsimp only
    obtain ⟨ν, HH, h, hR, hJ, hH, h2', hw⟩ := hI
    obtain ⟨h0, hD⟩ := DG_ex hn hR.1
    obtain ⟨m, es, q⟩ := hD μ hR.1
    have hRm := RR_QF hR q
    have hJm := JJ_QF hJ q
    have hHm := HR_fX hH q.1
    have hib : ib (nI a) 64 = true := ib_ok (by omega) (by omega)
    have go : ∀ (x y : Option (Int32 × hb_m)) (r : Int32) (μ' : hb_m) (hA : Ac n 89 m x y) (hx : x = some (r, μ')), ∃ a' μ'' w'', a' ≤ 30 ∧ LI n a' μ'' w'' ∧ jL_law_375 n dr (fun x4 x3 μ => lL_law_52 n dr k f x4 x3 μ) (nI i) (nI a) (rd m 229 2) r (μ', vp_updL w (nI a).toNatClampNeg h0) = k (nI 30) (nI a') (μ'', w'') := by
      intro x y r μ' hA hx
      obtain ⟨a', μ'', b1, b2, b3⟩ := law_join (dr := dr) (kk := fun x4 x3 μ => lL_law_52 n dr k f x4 x3 μ) (w' := vp_updL w (nI a).toNatClampNeg h0) hn (show i < 30 by omega) h3 hRm hJm hHm h2' hD hw (by rw [cl_ok (by omega)]; unfold vp_updL; rw [if_pos rfl]) (fun j hj => by rw [cl_ok (by omega)]; unfold vp_updL; rw [if_neg hj]) hA hx
      obtain ⟨a2, μ2, w2, c1, c2, c3⟩ := law_loop hn f (i + 1) a' μ'' _ (by omega) (by omega) (by omega) b2
      exact ⟨a2, μ2, w2, c1, c2, b3.trans c3⟩
    obtain ⟨j6, g6, e6⟩ := part_1 (n := n) (v := dr (nI i) >>> ((4 : Int32) &&& 31)) (q := 6) (μ := m) 6 rfl (by omega) (by omega)
    obtain ⟨j4, g4, e4⟩ := part_1 (n := n) (v := dr (nI i) >>> ((4 : Int32) &&& 31)) (q := 4) (μ := m) 4 rfl (by omega) (by omega)
    obtain ⟨j200, g200, e200⟩ := part_1 (n := n) (v := dr (nI i) >>> ((4 : Int32) &&& 31)) (q := 200) (μ := m) 200 rfl (by omega) (by omega)
    obtain ⟨j20, g20, e20⟩ := part_1 (n := n) (v := dr (nI i) >>> ((7 : Int32) &&& 31)) (q := 20) (μ := m) 20 rfl (by omega) (by omega)
    by_cases h3' : (3 : Int32) ≤ nI i
    · rw [if_pos h3']
      by_cases h7 : (7 : Int32) ≤ nI i
      · rw [if_pos h7]
        obtain ⟨jk_, gk, ek⟩ := part_1 (n := n) (v := dr (nI i)) (q := 10) (μ := μ) 10 rfl (by omega) (by omega)
        rw [ek, bi_some, es, bl_some, hib, if_pos rfl, cn13, bi_some, e6, bi_some, e4, bi_some]
        obtain z | z | z | z | z | z | z | z | z | z : jk_ = 0 ∨ jk_ = 1 ∨ jk_ = 2 ∨ jk_ = 3 ∨ jk_ = 4 ∨ jk_ = 5 ∨ jk_ = 6 ∨ jk_ = 7 ∨ jk_ = 8 ∨ jk_ = 9 := by omega
        all_goals subst z
        · rw [if_pos (by decide), e200, bi_some]
          have hA := A_addFlat (c := 89) (p := (1 : Int32) + nI j200) hRm hn
          obtain ⟨r, μ', -, ex, -⟩ := id hA
          rw [ex, bi_some]
          exact go _ _ _ _ hA ex
        · rw [if_neg (by decide), if_pos (by decide), e20, bi_some]
          have hA := A_addDevice (c := 89) (p1 := nI j4) (p2 := (1 : Int32) + nI j20) hRm hn
          obtain ⟨r, μ', -, ex, -⟩ := id hA
          rw [ex, bi_some]
          exact go _ _ _ _ hA ex
        · obtain ⟨ja, ga, ea⟩ := part_1 (n := n) (v := dr (nI i) >>> ((7 : Int32) &&& 31)) (q := 9000) (μ := m) 9000 rfl (by omega) (by omega)
          rw [if_neg (by decide), if_neg (by decide), if_neg (by decide), ea, bi_some]
          have hA := A_read (c := 89) (p1 := nI j6) (p2 := nI ja) hRm hn
          obtain ⟨r, μ', -, ex, -⟩ := id hA
          rw [ex, bi_some]
          exact go _ _ _ _ hA ex
        · obtain ⟨ja, ga, ea⟩ := part_1 (n := n) (v := dr (nI i) >>> ((7 : Int32) &&& 31)) (q := 9000) (μ := m) 9000 rfl (by omega) (by omega)
          rw [if_neg (by decide), if_neg (by decide), if_neg (by decide), ea, bi_some]
          have hA := A_read (c := 89) (p1 := nI j6) (p2 := nI ja) hRm hn
          obtain ⟨r, μ', -, ex, -⟩ := id hA
          rw [ex, bi_some]
          exact go _ _ _ _ hA ex
        · obtain ⟨ja, ga, ea⟩ := part_1 (n := n) (v := dr (nI i) >>> ((7 : Int32) &&& 31)) (q := 2) (μ := m) 2 rfl (by omega) (by omega)
          rw [if_neg (by decide), if_neg (by decide), if_pos (by decide), if_pos (by decide), ea, bi_some]
          by_cases z2 : nI ja = 0
          · rw [if_pos z2]
            have hA := A_mark (c := 89) (p1 := nI j6) (p2 := 1) hRm (Or.inr rfl) hn
            obtain ⟨r, μ', -, ex, -⟩ := id hA
            rw [ex, bi_some]
            exact go _ _ _ _ hA ex
          · rw [if_neg z2]
            have hA := A_mark (c := 89) (p1 := nI j6) (p2 := 0) hRm (Or.inl rfl) hn
            obtain ⟨r, μ', -, ex, -⟩ := id hA
            rw [ex, bi_some]
            exact go _ _ _ _ hA ex
        · obtain ⟨ja, ga, ea⟩ := part_1 (n := n) (v := dr (nI i) >>> ((7 : Int32) &&& 31)) (q := 3) (μ := m) 3 rfl (by omega) (by omega)
          obtain ⟨jb, gb, eb⟩ := part_1 (n := n) (v := dr (nI i) >>> ((9 : Int32) &&& 31)) (q := 90) (μ := m) 90 rfl (by omega) (by omega)
          rw [if_neg (by decide), if_neg (by decide), if_pos (by decide), if_neg (by decide), if_pos (by decide), ea, bi_some, eb, bi_some]
          have hA := A_set (c := 89) (p1 := nI ja) (p2 := nI jb) hRm hn hJm (fun _ => by rw [le_ok (by omega) (by omega)]; omega)
          obtain ⟨r, μ', -, ex, -⟩ := id hA
          rw [ex, bi_some]
          exact go _ _ _ _ hA ex
        · obtain ⟨ja, ga, ea⟩ := part_1 (n := n) (v := dr (nI i) >>> ((7 : Int32) &&& 31)) (q := 11) (μ := m) 11 rfl (by omega) (by omega)
          rw [if_neg (by decide), if_neg (by decide), if_pos (by decide), if_neg (by decide), if_neg (by decide), if_pos (by decide), ea, bi_some]
          have hA := A_move (c := 89) (p1 := nI j4) (p2 := (1 : Int32) + nI ja) hRm hn
          obtain ⟨r, μ', -, ex, -⟩ := id hA
          rw [ex, bi_some]
          exact go _ _ _ _ hA ex
        · obtain ⟨ja, ga, ea⟩ := part_1 (n := n) (v := dr (nI i) >>> ((7 : Int32) &&& 31)) (q := 1001) (μ := m) 1001 rfl (by omega) (by omega)
          rw [if_neg (by decide), if_neg (by decide), if_pos (by decide), if_neg (by decide), if_neg (by decide), if_neg (by decide), if_pos (by decide), ea, bi_some]
          have hA := A_between (c := 89) (p1 := nI j4) (p2 := nI ja) hRm hn
          obtain ⟨r, μ', -, ex, -⟩ := id hA
          rw [ex, bi_some]
          exact go _ _ _ _ hA ex
        · rw [if_neg (by decide), if_neg (by decide), if_pos (by decide), if_neg (by decide), if_neg (by decide), if_neg (by decide), if_neg (by decide), if_pos (by decide)]
          have hA := A_close (c := 89) hRm hn
          obtain ⟨r, μ', -, ex, -⟩ := id hA
          rw [ex, bi_some]
          exact go _ _ _ _ hA ex
        · obtain ⟨ja, ga, ea⟩ := part_1 (n := n) (v := dr (nI i) >>> ((4 : Int32) &&& 31)) (q := 3) (μ := m) 3 rfl (by omega) (by omega)
          obtain ⟨jb, gb, eb⟩ := part_1 (n := n) (v := dr (nI i) >>> ((6 : Int32) &&& 31)) (q := 4) (μ := m) 4 rfl (by omega) (by omega)
          obtain ⟨jc, gc_, ec⟩ := part_1 (n := n) (v := dr (nI i) >>> ((8 : Int32) &&& 31)) (q := 9000) (μ := m) 9000 rfl (by omega) (by omega)
          rw [if_neg (by decide), if_neg (by decide), if_pos (by decide), if_neg (by decide), if_neg (by decide), if_neg (by decide), if_neg (by decide), if_neg (by decide), ea, bi_some, eb, bi_some, ec, bi_some]
          have hA := A_correct (c := 89) (p1 := nI ja) (p2 := nI jb) (p3 := nI jc) hRm hn
          obtain ⟨r, μ', -, ex, -⟩ := id hA
          rw [ex, bi_some]
          exact go _ _ _ _ hA ex
      · rw [if_neg h7, es, bl_some, hib, if_pos rfl, cn13, bi_some, e6, bi_some, e4, bi_some, e20, bi_some]
        have hA := A_addDevice (c := 89) (p1 := nI j4) (p2 := (1 : Int32) + nI j20) hRm hn
        obtain ⟨r, μ', -, ex, -⟩ := id hA
        rw [ex, bi_some]
        exact go _ _ _ _ hA ex
    · rw [if_neg h3', es, bl_some, hib, if_pos rfl, cn13, bi_some, e6, bi_some, e4, bi_some, e200, bi_some]
      have hA := A_addFlat (c := 89) (p := (1 : Int32) + nI j200) hRm hn
      obtain ⟨r, μ', -, ex, -⟩ := id hA
      rw [ex, bi_some]
      exact go _ _ _ _ hA ex

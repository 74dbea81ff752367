/-! BOTH SIDES: the text (4): refusals, telling -/
def bB (p : Nat → Bool) : Nat → Nat → Bool
  | _, 0 => true
  | i, b + 1 => p i && bB p (i + 1) b
theorem bB_all {p : Nat → Bool} : ∀ b i, bB p i b = true → ∀ j, i ≤ j → j < i + b → p j = true
  | 0, i, _, j, h1, h2 => by omega
  | b + 1, i, h, j, h1, h2 => by
    rw [bB, Bool.and_eq_true] at h
    by_cases e : j = i
    · rw [e]; exact h.1
    · exact bB_all b (i + 1) h.2 j (by omega) (by omega)
theorem bB_co {p q : Nat → Bool} : ∀ b i, (∀ j, i ≤ j → j < i + b → p j = q j) → bB p i b = bB q i b
  | 0, i, _ => rfl
  | b + 1, i, h => by
    rw [bB, bB, h i (by omega) (by omega), bB_co b (i + 1) (fun j h1 h2 => h j (by omega) (by omega))]
def bI (b : Bool) : Int32 := if b then 1 else 0
/-- what is told, on both sides -/
def TD (μ ν : hb_m) (d : Nat → Nat) (r : Nat → Int32) (T : Nat) : Prop := T ≤ 15 ∧ rd μ 231 4 = nI T ∧ rd ν 0 15 = nI T ∧ ∀ j, j < T → rd μ 233 j = nI (d j) ∧ rd μ 234 j = r j ∧ rd ν 11 (2 * j) = nI (d j) ∧ rd ν 11 (2 * j + 1) = r j ∧ d j ≤ 19 ∧ (r j = -5 ∨ ∃ w, w ≤ 9999 ∧ r j = nI w)
theorem TR_TD {μ ν : hb_m} {T : Nat} (h : TR μ ν T) (hT : T ≤ 15) (h4 : rd μ 231 4 = nI T) (h15 : rd ν 0 15 = nI T) : ∃ d r, TD μ ν d r T := by
  refine ⟨fun j => (rd ν 11 (2 * j)).toNatClampNeg, fun j => rd ν 11 (2 * j + 1), hT, h4, h15, fun j hj => ?_⟩
  obtain ⟨d, r, z1, z2, z3, z4, z5, z6⟩ := h j hj
  dsimp only
  rw [z5, z6, cl_ok (by omega)]
  exact ⟨z3, z4, rfl, rfl, z1, z2⟩
def iB (d : Nat → Nat) (D j : Nat) : Bool := decide (d j < D)
def oB (ρ : Nat → Int32) (d : Nat → Nat) (r : Nat → Int32) (j : Nat) : Bool := decide (r j = -5) || decide (ρ (33 + 5 * d j) ≤ r j)
theorem X_nO {n D T : Nat} {d : Nat → Nat} {r : Nat → Int32} {μ ν : hb_m} (h : TD μ ν d r T) (hD : rd μ 8 2 = nI D) (hD20 : D ≤ 20) : ∀ b i f, i + b = T → b < f → lX3_namesOnlyDevicesOf_2 n 0 (fun x2_2 m2 => some ((1 : Int32), m2)) f (nI i) μ = some (bI (bB (iB d D) i b), μ)
  | 0, i, f + 1, hi, hf => by
    obtain ⟨hT, h4, h15, hj⟩ := h
    rw [lX3_namesOnlyDevicesOf_2]
    rw [h4, if_pos (by rw [le_ok (by omega) (by omega)]; omega)]
    rfl
  | b + 1, i, f + 1, hi, hf => by
    have ih := X_nO (n := n) h hD hD20 b (i + 1) f (by omega) (by omega)
    obtain ⟨hT, h4, h15, hj⟩ := h
    obtain ⟨z1, z2, z3, z4, z5, z6⟩ := hj i (by omega)
    rw [lX3_namesOnlyDevicesOf_2]
    rw [h4, if_neg (by rw [le_ok (by omega) (by omega)]; omega), ib_ok (by omega) (by omega), if_pos rfl, cl_ok (by omega), z1, bB]
    by_cases hd : d i < D
    · rw [X_hD_y hD hD20 hd, bi_some, if_neg (show ¬ (1 : Int32) = 0 by decide), show nI i + 1 = nI (i + 1) from nI_1 i, ih, show iB d D i = true from decide_eq_true hd, Bool.true_and]
    · rw [X_hD_n hD (Or.inr (by rw [le_ok (by omega) (by omega)]; omega)), bi_some, if_pos (show (0 : Int32) = 0 from rfl), show iB d D i = false from decide_eq_false hd, Bool.false_and]
      rfl
theorem X_iP {n D T : Nat} {d : Nat → Nat} {r ρ : Nat → Int32} {μ ν : hb_m} (h : TD μ ν d r T) (hd : ∀ j, j < T → d j < D) (hD20 : D ≤ 20) (hb : ∀ e, e < D → rd μ 4 e = ρ (33 + 5 * e)) : ∀ b i f, i + b = T → b < f → lX3_isPossibleFor_2 n 0 (fun x2_2 m2 => some ((1 : Int32), m2)) f (nI i) μ = some (bI (bB (oB ρ d r) i b), μ)
  | 0, i, f + 1, hi, hf => by
    obtain ⟨hT, h4, h15, hj⟩ := h
    rw [lX3_isPossibleFor_2]
    rw [h4, if_pos (by rw [le_ok (by omega) (by omega)]; omega)]
    rfl
  | b + 1, i, f + 1, hi, hf => by
    have ih := X_iP (n := n) h hd hD20 hb b (i + 1) f (by omega) (by omega)
    obtain ⟨hT, h4, h15, hj⟩ := h
    obtain ⟨z1, z2, z3, z4, z5, z6⟩ := hj i (by omega)
    have hdi := hd i (by omega)
    rw [lX3_isPossibleFor_2]
    rw [h4, if_neg (by rw [le_ok (by omega) (by omega)]; omega), ib_ok (show i < 15 by omega) (by omega), if_pos rfl, cl_ok (by omega), z1, z2, bB, show nI i + 1 = nI (i + 1) from nI_1 i, ih]
    by_cases h5 : r i = -5
    · rw [if_pos h5, show oB ρ d r i = true by rw [oB, decide_eq_true h5, Bool.true_or], Bool.true_and]
    · rw [if_neg h5, if_pos rfl, if_pos rfl, ib_ok (show d i < 20 by omega) (by omega), if_pos rfl, cl_ok (show d i < 2147483648 by omega), show rd μ (0 + 4) (d i) = _ from hb _ hdi]
      by_cases hl : ρ (33 + 5 * d i) ≤ r i
      · rw [if_pos hl, show oB ρ d r i = true by rw [oB, decide_eq_true hl, Bool.or_true], Bool.true_and]
      · rw [if_neg hl, show oB ρ d r i = false by rw [oB, decide_eq_false hl, decide_eq_false h5]; rfl, Bool.false_and]
        rfl
theorem M_rf {n D T : Nat} {d : Nat → Nat} {r : Nat → Int32} {μ ν : hb_m} {k : Int32 → Int32 → Int32 → hb_m → Option (Int32 × hb_m)} (h : TD μ ν d r T) (hD : rd ν 1 1 = nI D) (hD20 : D ≤ 20) : ∀ b i f (A B : Bool), i + b = T → b < f → lX6_refusal_6 n k f (nI i) (bI B) (bI A) ν = k (nI T) (bI (B && bB (fun j => !iB d D j || oB (rd ν 1) d r j) i b)) (bI (A && bB (iB d D) i b)) ν
  | 0, i, f + 1, A, B, hi, hf => by
    obtain ⟨hT, h4, h15, hj⟩ := h
    rw [lX6_refusal_6]
    rw [h15, if_pos (by rw [le_ok (by omega) (by omega)]; omega), bB, bB, Bool.and_true, Bool.and_true, show i = T by omega]
  | b + 1, i, f + 1, A, B, hi, hf => by
    have ih := fun A B => M_rf (n := n) (k := k) h hD hD20 b (i + 1) f A B (by omega) (by omega)
    have i00 := ih false false
    have i01 := ih false true
    have i10 := ih true false
    have i11 := ih true true
    rw [show bI false = 0 from rfl] at i00 i01 i10
    rw [show bI true = 1 from rfl] at i01 i10 i11
    obtain ⟨hT, h4, h15, hj⟩ := h
    obtain ⟨z1, z2, z3, z4, z5, z6⟩ := hj i (by omega)
    rw [lX6_refusal_6]
    have e2 : (2 : Int32) * nI i = nI (2 * i) := by rw [li2, pk_mul]
    rw [h15, if_neg (by rw [le_ok (by omega) (by omega)]; omega), e2, ib_ok (show 2 * i < 64 by omega) (by omega), if_pos rfl, cl_ok (by omega), z3, bB, bB, show nI i + (1 : Int32) = nI (i + 1) from nI_1 i, show nI (2 * i) + (1 : Int32) = nI (2 * i + 1) from nI_1 _]
    by_cases hd : d i < D
    · rw [M_isD_y hD hD20 hd, bi_some, show iB d D i = true from decide_eq_true hd]
      simp only [e10, if_false, Bool.true_and, Bool.not_true, Bool.false_or]
      rw [ib_ok (show 2 * i + 1 < 64 by omega) (by omega), cl_ok (show 2 * i + 1 < 2147483648 by omega), z4, if_pos rfl, z3]
      have hof : fX6_of n (nI (d i)) 2 ν = some (rd ν 1 (33 + 5 * d i), ν) := by
        rw [li2, M_of (by omega), show 31 + 5 * d i + 2 = 33 + 5 * d i by omega]
      rw [hof]
      have e5 : ∀ (X Y : Option (Int32 × hb_m)), (if r i < rd ν 1 (33 + 5 * d i) then X else Y) = if rd ν 1 (33 + 5 * d i) ≤ r i then Y else X := by
        intro X Y
        by_cases q : rd ν 1 (33 + 5 * d i) ≤ r i
        · rw [if_pos q, if_neg (Int32.not_lt.mpr q)]
        · rw [if_neg q, if_pos (Int32.not_le.mp q)]
      by_cases h5 : r i = -5
      · have ho : oB (rd ν 1) d r i = true := by rw [oB, decide_eq_true h5, Bool.true_or]
        cases A <;> cases B
        all_goals simp only [bI, if_true, if_false, e00, e10, Bool.false_and, Bool.true_and, Bool.false_eq_true, bi_some, i00, i01, i10, i11, e5, h5, ho]
      · by_cases hl : rd ν 1 (33 + 5 * d i) ≤ r i
        · have ho : oB (rd ν 1) d r i = true := by rw [oB, decide_eq_true hl, Bool.or_true]
          cases A <;> cases B
          all_goals simp only [bI, if_true, if_false, e00, e10, Bool.false_and, Bool.true_and, Bool.false_eq_true, bi_some, i00, i01, i10, i11, e5, h5, hl, ho]
        · have ho : oB (rd ν 1) d r i = false := by rw [oB, decide_eq_false hl, decide_eq_false h5]; rfl
          cases A <;> cases B
          all_goals simp only [bI, if_true, if_false, e00, e10, Bool.false_and, Bool.true_and, Bool.and_false, Bool.false_eq_true, bi_some, i00, i01, i10, i11, e5, h5, hl, ho]
    · rw [M_isD_n hD hD20 (Or.inr (by rw [le_ok (by omega) (by omega)]; omega)), bi_some, show iB d D i = false from decide_eq_false hd]
      cases A <;> cases B
      all_goals simp only [bI, if_true, if_false, e00, e10, Bool.false_and, Bool.true_and, Bool.and_false, Bool.false_eq_true, Bool.not_false, Bool.true_or, i00, i01, i10, i11]
theorem T_tell {n F D Y T : Nat} {d : Nat → Nat} {r : Nat → Int32} (hn : 2147483648 ≤ n) : ∀ b i f g (μ ν : hb_m), i + b = T → b < f → b < g → TD μ ν d r T → (∀ j, j < T → d j < D ∧ (r j = -5 ∨ (rg (r j) 0 9999 ∧ (rd ν 1 (33 + 5 * d j)).toNatClampNeg ≤ (r j).toNatClampNeg))) → NR μ ν F D Y → ∃ μ' ν', lX3_tellTo_2 n 0 (fun x2_2 m2 => some m2) f (nI i) μ = some μ' ∧ lX6_readAll_32 n (fun x2_32 m32 => some ((rd m32 0 15), m32)) g (nI i) ν = some (nI T, ν') ∧ NR μ' ν' F D Y ∧ (∀ k j, k ≠ 5 → k ≠ 6 → rd μ' k j = rd μ k j) ∧ (∀ k j, k ≠ 1 → rd ν' k j = rd ν k j)
  | 0, i, f + 1, g + 1, μ, ν, hi, hf, hg, h, hd, hN => by
    obtain ⟨hT, h4, h15, hj⟩ := h
    refine ⟨μ, ν, ?_, ?_, hN, fun _ _ _ _ => rfl, fun _ _ _ => rfl⟩
    · rw [lX3_tellTo_2]
      rw [h4, if_pos (by rw [le_ok (by omega) (by omega)]; omega)]
    · rw [lX6_readAll_32]
      rw [h15, if_pos (by rw [le_ok (by omega) (by omega)]; omega)]
  | b + 1, i, f + 1, g + 1, μ, ν, hi, hf, hg, h, hd, hN => by
    obtain ⟨hT, h4, h15, hj⟩ := id h
    obtain ⟨z1, z2, z3, z4, z5, z6⟩ := hj i (by omega)
    obtain ⟨hdi, hri⟩ := hd i (by omega)
    have e2 : (2 : Int32) * nI i = nI (2 * i) := by rw [li2, pk_mul]
    have hfr : ∀ (μ2 ν2 : hb_m), (∀ k j, k ≠ 5 → k ≠ 6 → rd μ2 k j = rd μ k j) → (∀ k j, k ≠ 1 → rd ν2 k j = rd ν k j) → TD μ2 ν2 d r T := by
      intro μ2 ν2 q1 q2
      refine ⟨hT, (q1 _ _ (by omega) (by omega)).trans h4, (q2 _ _ (by omega)).trans h15, fun j hj' => ?_⟩
      rw [q1 _ _ (by omega) (by omega), q1 _ _ (by omega) (by omega), q2 _ _ (by omega), q2 _ _ (by omega)]
      exact hj j hj'
    rw [lX3_tellTo_2, lX6_readAll_32]
    have hni : ¬ nI T ≤ nI i := by rw [le_ok (by omega) (by omega)]; omega
    rw [h4, h15, if_neg hni, if_neg hni, e2, ib_ok (show i < 15 by omega) (by omega), ib_ok (show 2 * i < 64 by omega) (by omega), cl_ok (show i < 2147483648 by omega), cl_ok (show 2 * i < 2147483648 by omega), show nI (2 * i) + (1 : Int32) = nI (2 * i + 1) from nI_1 _, ib_ok (show 2 * i + 1 < 64 by omega) (by omega), cl_ok (show 2 * i + 1 < 2147483648 by omega), z1, z2, z3, z4, ib_ok (show d i < 20 by omega) (by omega), cl_ok (show d i < 2147483648 by omega), show nI i + (1 : Int32) = nI (i + 1) from nI_1 i]
    simp only [if_true, nar1, nar0]
    by_cases h5 : r i = -5
    · rw [if_pos h5, if_pos h5]
      simp only [h5, if_true]
      have w1 : rd (wr μ (0 + 6) (d i) 1) 234 i = -5 := by rw [rd_wr, if_neg (by omega), z2, h5]
      have w2 : rd (wr ν 1 (31 + 5 * d i + 4) 1) 11 (2 * i) = nI (d i) := by rw [rd_wr, if_neg (by omega), z3]
      rw [w1, if_pos (show (-5 : Int32) = -5 from rfl), li4, M_puts (by omega), bv_some, w2, li3, M_of (by omega), bi_some, M_puts (by omega), bv_some, show 31 + 5 * d i + 4 = 35 + 5 * d i by omega, show 31 + 5 * d i + 3 = 34 + 5 * d i by omega, show 0 + 6 = 6 from rfl]
      have hN1 := put_flt hN hdi (v := 1) (Or.inr rfl)
      have hN2 : NR (wr μ 6 (d i) 1) (wr (wr ν 1 (35 + 5 * d i) 1) 1 (34 + 5 * d i) (rd (wr ν 1 (35 + 5 * d i) 1) 1 (34 + 5 * d i))) F D Y := NR_q hN1 (fun _ _ _ _ => rfl) (fun k => by
        rw [rd_wr]
        by_cases q : k = 34 + 5 * d i
        · rw [if_pos ⟨rfl, q⟩, q]
        · rw [if_neg (fun z => q z.2)])
      have q1 : ∀ k j, k ≠ 5 → k ≠ 6 → rd (wr μ 6 (d i) 1) k j = rd μ k j := fun k j k5 k6 => by rw [rd_wr, if_neg (by omega)]
      have q2 : ∀ k j, k ≠ 1 → rd (wr (wr ν 1 (35 + 5 * d i) 1) 1 (34 + 5 * d i) (rd (wr ν 1 (35 + 5 * d i) 1) 1 (34 + 5 * d i))) k j = rd ν k j := fun k j k1 => by rw [rd_wr, if_neg (by omega), rd_wr, if_neg (by omega)]
      have q3 : ∀ j, rd (wr (wr ν 1 (35 + 5 * d i) 1) 1 (34 + 5 * d i) (rd (wr ν 1 (35 + 5 * d i) 1) 1 (34 + 5 * d i))) 1 (33 + 5 * d j) = rd ν 1 (33 + 5 * d j) := fun j => by rw [rd_wr, if_neg (by omega), rd_wr, if_neg (by omega)]
      obtain ⟨μ', ν', e1, e3, g1, g2, g3⟩ := T_tell (n := n) hn b (i + 1) f g _ _ (by omega) (by omega) (by omega) (hfr _ _ q1 q2) (fun j hj' => by rw [q3]; exact hd j hj') hN2
      exact ⟨μ', ν', e1, e3, g1, fun k j k5 k6 => (g2 k j k5 k6).trans (q1 k j k5 k6), fun k j k1 => (g3 k j k1).trans (q2 k j k1)⟩
    · rw [if_neg h5, if_neg h5]
      simp only [h5, if_false]
      have w1 : rd (wr μ (0 + 6) (d i) 0) 234 i = r i := by rw [rd_wr, if_neg (by omega), z2]
      have w2 : rd (wr ν 1 (31 + 5 * d i + 4) 0) 11 (2 * i) = nI (d i) := by rw [rd_wr, if_neg (by omega), z3]
      rw [w1, if_neg h5, show (4 : Int32) = nI 4 from rfl, M_puts (by omega), bv_some, w2, show (3 : Int32) = nI 3 from rfl, M_puts (by omega), bv_some, show 31 + 5 * d i + 4 = 35 + 5 * d i by omega, show 31 + 5 * d i + 3 = 34 + 5 * d i by omega, show 0 + 6 = 6 from rfl, show 0 + 5 = 5 from rfl]
      obtain ⟨hr1, hr2⟩ : rg (r i) 0 9999 ∧ (rd ν 1 (33 + 5 * d i)).toNatClampNeg ≤ (r i).toNatClampNeg := by
        rcases hri with q | q
        · exact absurd q h5
        · exact q
      have hN1 := put_flt hN hdi (v := 0) (Or.inl rfl)
      have hN2 := put_end hN1 hdi hr1 (by rw [rd_wr, if_neg (by omega)]; exact hr2)
      have q1 : ∀ k j, k ≠ 5 → k ≠ 6 → rd (wr (wr μ 6 (d i) 0) 5 (d i) (r i)) k j = rd μ k j := fun k j k5 k6 => by rw [rd_wr, if_neg (by omega), rd_wr, if_neg (by omega)]
      have q2 : ∀ k j, k ≠ 1 → rd (wr (wr ν 1 (35 + 5 * d i) 0) 1 (34 + 5 * d i) (r i)) k j = rd ν k j := fun k j k1 => by rw [rd_wr, if_neg (by omega), rd_wr, if_neg (by omega)]
      have q3 : ∀ j, rd (wr (wr ν 1 (35 + 5 * d i) 0) 1 (34 + 5 * d i) (r i)) 1 (33 + 5 * d j) = rd ν 1 (33 + 5 * d j) := fun j => by rw [rd_wr, if_neg (by omega), rd_wr, if_neg (by omega)]
      obtain ⟨μ', ν', e1, e3, g1, g2, g3⟩ := T_tell (n := n) hn b (i + 1) f g _ _ (by omega) (by omega) (by omega) (hfr _ _ q1 q2) (fun j hj' => by rw [q3]; exact hd j hj') hN2
      exact ⟨μ', ν', e1, e3, g1, fun k j k5 k6 => (g2 k j k5 k6).trans (q1 k j k5 k6), fun k j k1 => (g3 k j k1).trans (q2 k j k1)⟩
theorem O_readAll {n : Nat} {μ ν : hb_m} (h : RR μ ν) (hn : 2147483648 ≤ n) : Op (fX5_readAll n μ) (fX6_readAll n ν) := by
  unfold fX5_readAll fX6_readAll
  rcases T_all h.2.2.2 hn with ⟨μ1, ν1, p, e1, e2, hp1, hp2, x1, y1⟩ | ⟨μ1, ν1, T, e1, e2, hT, h4, h15, hTR, x1, y1⟩
  · have hR1 : RR μ1 ν1 := RR_q h (fun k i hk => x1 k i (by omega) (by omega) (by omega)) (fun k i hk => y1 k i (by omega) (by omega)) (fun k i hk _ => x1 k i (by omega) (by omega) (by omega)) (fun i => y1 1 i (by omega) (by omega))
    rw [e1, e2, bi_some, bi_some, if_pos (show (0 : Int32) = 0 from rfl), if_pos (show (0 : Int32) = 0 from rfl), hp1, hp2]
    exact op_mk rfl hR1
  · have hR1 : RR μ1 ν1 := RR_q h (fun k i hk => x1 k i (by omega) (by omega) (by omega)) (fun k i hk => y1 k i (by omega) (by omega)) (fun k i hk _ => x1 k i (by omega) (by omega) (by omega)) (fun i => y1 1 i (by omega) (by omega))
    rw [e1, e2, bi_some, bi_some, if_neg (show ¬ (1 : Int32) = 0 by decide), if_neg (show ¬ (1 : Int32) = 0 by decide)]
    clear e1 e2 x1 y1 h μ ν
    obtain ⟨d, r, hTD⟩ := TR_TD hTR hT h4 h15
    obtain ⟨F, D, Y, hi, hr⟩ := id hR1.1
    have hD20 := hi.1.2.1
    obtain ⟨-, ⟨i0, i1, i2⟩, iF, iD, iY⟩ := Inv_get hi
    obtain ⟨⟨⟨a0, a1, a2, a3⟩, ⟨b0, b1, b2⟩⟩, rF, rD, rY⟩ := Rep_get hr
    have k1 := X_nO (n := n) hTD b2 hD20 T 0 n (by omega) (by omega)
    have k2 := M_rf (n := n) (k := fun x3_6 x2_6 x1_6 m6 => if x1_6 = 0 then (some ((-1 : Int32), m6)) else (if x2_6 = 0 then (some ((-4 : Int32), m6)) else (some ((0 : Int32), m6)))) hTD i1 hD20 T 0 n true true (by omega) (by omega)
    rw [show nI 0 = (0 : Int32) from rfl] at k1 k2
    rw [show bI true = 1 from rfl, Bool.true_and, Bool.true_and] at k2
    unfold fX3_namesOnlyDevicesOf fX6_refusal
    rw [k1, k2, bi_some]
    cases hA : bB (iB d D) 0 T with
    | false =>
      simp only [bI, Bool.false_eq_true, if_false, if_true, bi_some]
      rw [if_neg (show ¬ (0 : Int32) ≤ -1 by decide)]
      exact op_mk rfl hR1
    | true =>
      have hdD : ∀ j, j < T → d j < D := fun j hj => of_decide_eq_true (bB_all T 0 hA j (by omega) (by omega))
      have k3 := X_iP (n := n) (ρ := rd ν1 1) hTD hdD hD20 (fun e he => (rD.2.1 e (by omega)).trans (if_pos he)) T 0 n (by omega) (by omega)
      rw [show nI 0 = (0 : Int32) from rfl] at k3
      have k4 : bB (fun j => !iB d D j || oB (rd ν1 1) d r j) 0 T = bB (oB (rd ν1 1) d r) 0 T := bB_co T 0 (fun j _ hj => by rw [bB_all T 0 hA j (by omega) (by omega), Bool.not_true, Bool.false_or])
      rw [k4]
      unfold fX3_isPossibleFor
      rw [show bI true = 1 from rfl, if_neg (show ¬ (1 : Int32) = 0 by decide), if_neg (show ¬ (1 : Int32) = 0 by decide), k3, bi_some]
      cases hB : bB (oB (rd ν1 1) d r) 0 T with
      | false =>
        simp only [bI, Bool.false_eq_true, if_false, if_true, bi_some]
        rw [if_neg (show ¬ (0 : Int32) ≤ -4 by decide)]
        exact op_mk rfl hR1
      | true =>
        rw [show bI true = 1 from rfl, if_neg (show ¬ (1 : Int32) = 0 by decide), if_neg (show ¬ (1 : Int32) = 0 by decide), bi_some, if_pos (show (0 : Int32) ≤ 0 by decide)]
        obtain ⟨μ2, ν2, e1, e2, hR, hm, hr1, x, m⟩ := A_act hR1 hr hi hn
        rw [e1, e2, bv_some, bv_some]
        have hN : NR μ2 ν2 F D Y := by
          rw [← hm] at hi hr1
          exact ⟨hi, hr1⟩
        have hTD2 : TD μ2 ν2 d r T := by
          obtain ⟨q1, q2, q3, q4⟩ := hTD
          refine ⟨q1, (x _ _ (by omega)).trans q2, (m _ _ (by omega) (by omega)).trans q3, fun j hj => ?_⟩
          rw [x _ _ (by omega), x _ _ (by omega), m _ _ (by omega) (by omega), m _ _ (by omega) (by omega)]
          exact q4 j hj
        obtain ⟨μ3, ν3, e3, e4, g1, g2, g3⟩ := T_tell (n := n) (F := F) (D := D) (Y := Y) hn T 0 n n μ2 ν2 (by omega) (by omega) (by omega) hTD2 (fun j hj => by
          refine ⟨hdD j hj, ?_⟩
          have ho := bB_all T 0 hB j (by omega) (by omega)
          rcases (hTD.2.2.2 j hj).2.2.2.2.2 with q | ⟨w, hw, ew⟩
          · exact Or.inl q
          · refine Or.inr ⟨by rw [ew]; exact rg_mk (by omega) hw (by omega), ?_⟩
            rw [oB, Bool.or_eq_true, decide_eq_true_eq, decide_eq_true_eq] at ho
            obtain ⟨-, ⟨z1, -, z2⟩, -⟩ := iD.2.2.1 (d j) (hdD j hj)
            rcases ho with q | q
            · rw [ew, neg_ne (by omega)] at q
              exact q.elim
            · rw [hm]
              rw [z1, ew, le_ok (by omega) (by omega)] at q
              rw [ew, cl_ok (by omega)]
              exact q) hN
        unfold fX3_tellTo
        rw [show (0 : Int32) = nI 0 from rfl, e3, e4, bv_some]
        refine op_mk ?_ (RR_NR hR (fun k i hk => g2 k i (by omega) (by omega)) (fun k i hk => g3 k i (by omega)) g1)
        rw [g2 _ _ (by omega) (by omega)]
        exact hTD2.2.1

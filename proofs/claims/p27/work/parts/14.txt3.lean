/-! BOTH SIDES: the text (3): all readings -/
def TR (μ ν : hb_m) (i : Nat) : Prop := ∀ j, j < i → ∃ d r, d ≤ 19 ∧ (r = -5 ∨ ∃ w, w ≤ 9999 ∧ r = nI w) ∧ rd μ 233 j = nI d ∧ rd μ 234 j = r ∧ rd ν 11 (2 * j) = nI d ∧ rd ν 11 (2 * j + 1) = r
def xG (μ μ' : hb_m) : Prop := ∀ k j, (k ≠ 231 ∨ (j ≠ 2 ∧ j ≠ 3 ∧ j ≠ 4)) → k ≠ 233 → k ≠ 234 → rd μ' k j = rd μ k j
def mG (ν ν' : hb_m) : Prop := ∀ k j, (k ≠ 0 ∨ (j ≠ 13 ∧ j ≠ 15)) → k ≠ 11 → rd ν' k j = rd ν k j
def L_no (μ ν : hb_m) (x y : Option (Int32 × hb_m)) : Prop := ∃ μ' ν' p, x = some (0, μ') ∧ y = some (0, ν') ∧ rd μ' 231 2 = nI p ∧ rd ν' 0 13 = nI p ∧ xG μ μ' ∧ mG ν ν'
def L_yes (μ ν : hb_m) (x y : Option (Int32 × hb_m)) : Prop := ∃ μ' ν' T, x = some (1, μ') ∧ y = some (1, ν') ∧ T ≤ 15 ∧ rd μ' 231 4 = nI T ∧ rd ν' 0 15 = nI T ∧ TR μ' ν' T ∧ xG μ μ' ∧ mG ν ν'
theorem L_no_tr {μ ν μ1 ν1 : hb_m} {x y : Option (Int32 × hb_m)} (h : L_no μ1 ν1 x y) (h1 : xG μ μ1) (h2 : mG ν ν1) : L_no μ ν x y := by
  obtain ⟨μ', ν', p, a, b, c, d, e, f⟩ := h
  exact ⟨μ', ν', p, a, b, c, d, fun k j k1 k2 k3 => (e k j k1 k2 k3).trans (h1 k j k1 k2 k3), fun k j k1 k2 => (f k j k1 k2).trans (h2 k j k1 k2)⟩
theorem L_yes_tr {μ ν μ1 ν1 : hb_m} {x y : Option (Int32 × hb_m)} (h : L_yes μ1 ν1 x y) (h1 : xG μ μ1) (h2 : mG ν ν1) : L_yes μ ν x y := by
  obtain ⟨μ', ν', p, a, b, c, d, g, t, e, f⟩ := h
  exact ⟨μ', ν', p, a, b, c, d, g, t, fun k j k1 k2 k3 => (e k j k1 k2 k3).trans (h1 k j k1 k2 k3), fun k j k1 k2 => (f k j k1 k2).trans (h2 k j k1 k2)⟩
theorem T_lp {n t : Nat} {c : Nat → Int32} (ht : t ≤ 60) (hn : 2147483648 ≤ n) : ∀ b i a f g (μ ν : hb_m), i + b = 15 → b < f → b + 1 < g → 4 * i ≤ a → a ≤ t → XT μ c t a → MT ν c t a → rd ν 0 15 = nI i → TR μ ν i → (L_no μ ν (lX3_parse_12 n (fun x1_12 m12 => some ((0 : Int32), m12)) f (nI i) μ) (lX6_isText_12 n (fun x1_12 m12 => if (rd m12 0 13) = (rd m12 0 6) then (some ((1 : Int32), m12)) else (some ((0 : Int32), m12))) g 1 ν) ∨ L_yes μ ν (lX3_parse_12 n (fun x1_12 m12 => some ((0 : Int32), m12)) f (nI i) μ) (lX6_isText_12 n (fun x1_12 m12 => if (rd m12 0 13) = (rd m12 0 6) then (some ((1 : Int32), m12)) else (some ((0 : Int32), m12))) g 1 ν))
  | 0, i, a, f + 1, g + 1, μ, ν, hib, hf, hg, hia, hat, hX, hM, h15, hT => by
    have hi15 : i = 15 := by omega
    subst hi15
    rw [lX3_parse_12, lX6_isText_12]
    rw [if_pos (show (15 : Int32) ≤ nI 15 by decide), if_neg (show ¬ (1 : Int32) = 0 by decide)]
    unfold fX6_readsOne
    have hd : ¬ dg c t a := fun q => by have := q.1; omega
    rw [M_num0 ht hat hM hd, bi_some, if_pos (show (-5 : Int32) = -5 from rfl), bi_some, if_pos (show (0 : Int32) = 0 from rfl)]
    exact Or.inl ⟨_, _, a, rfl, rfl, hX.2.1, hM.2.1, fun _ _ _ _ _ => rfl, fun _ _ _ _ => rfl⟩
  | b + 1, i, a, f + 1, g + 1, μ, ν, hib, hf, hg, hia, hat, hX, hM, h15, hT => by
    rw [lX3_parse_12, lX6_isText_12]
    rw [if_neg (show ¬ (15 : Int32) ≤ nI i by rw [li15, le_ok (by omega) (by omega)]; omega), if_neg (show ¬ (1 : Int32) = 0 by decide)]
    rcases T_one (n := n) (i := i) hX hM ht hat (by omega) h15 hn with ⟨μ1, ν1, p, e1, e2, hp, x1, y1, x2, y2⟩ | ⟨μ1, ν1, a', d, r, e1, e2, ha1, ha2, x1, y1, hd, hr, x3, x4, y3, y4, y5, x2, y2⟩
    · rw [e1, e2, bi_some, bi_some, if_pos (show (0 : Int32) = 0 from rfl), if_pos (show (0 : Int32) = 0 from rfl)]
      exact Or.inl ⟨_, _, p, rfl, rfl, x1.2.1, y1.2.1, fun k j k1 k2 k3 => x2 k j (by omega) (by omega) (by omega), fun k j k1 k2 => y2 k j (by omega) (by omega)⟩
    · rw [e1, e2, bi_some, bi_some, if_neg (show ¬ (1 : Int32) = 0 by decide), if_neg (show ¬ (1 : Int32) = 0 by decide), show nI i + (1 : Int32) = nI (i + 1) from nI_1 i]
      have x1' : XT (wr μ1 231 4 (nI (i + 1))) c t a' := XT_fr x1 (fun k j hk => by rw [rd_wr, if_neg (by omega)])
      have x5 : rd (wr μ1 231 4 (nI (i + 1))) 231 4 = nI (i + 1) := by rw [rd_wr, if_pos ⟨rfl, rfl⟩]
      have x6 : xG μ (wr μ1 231 4 (nI (i + 1))) := fun k j k1 k2 k3 => by rw [rd_wr, if_neg (by omega)]; exact x2 k j (by omega) (by omega) (by omega)
      have y6 : mG ν ν1 := fun k j k1 k2 => y2 k j (by omega) (by omega)
      have hT' : TR (wr μ1 231 4 (nI (i + 1))) ν1 (i + 1) := by
        intro j hj
        by_cases q : j = i
        · subst q
          exact ⟨d, r, hd, hr, by rw [rd_wr, if_neg (by omega)]; exact x3, by rw [rd_wr, if_neg (by omega)]; exact x4, y3, y4⟩
        · obtain ⟨d', r', z1, z2, z3, z4, z5, z6⟩ := hT j (by omega)
          refine ⟨d', r', z1, z2, ?_, ?_, ?_, ?_⟩
          · rw [rd_wr, if_neg (by omega), x2 _ _ (by omega) (by omega) (by omega)]; exact z3
          · rw [rd_wr, if_neg (by omega), x2 _ _ (by omega) (by omega) (by omega)]; exact z4
          · rw [y2 _ _ (by omega) (by omega)]; exact z5
          · rw [y2 _ _ (by omega) (by omega)]; exact z6
      generalize wr μ1 231 4 (nI (i + 1)) = μ2 at x1' x5 x6 hT' ⊢
      rw [x1'.1, x1'.2.1, X_take x1' ht ha2, M_takes y1 ht ha2]
      obtain ⟨g, rfl⟩ : ∃ h, g = h + 1 := ⟨g - 1, by omega⟩
      by_cases he : a' = t
      · subst he
        rw [if_pos (show nI a' = nI a' from rfl), if_neg (show ¬ (a' < a' ∧ c a' = 59) from fun q => by have := q.1; omega), bi_some, lX6_isText_12, if_pos (show (0 : Int32) = 0 from rfl)]
        have w1 : rd (wr ν1 0 13 (nI a')) 0 13 = nI a' := by rw [rd_wr, if_pos ⟨rfl, rfl⟩]
        have w2 : rd (wr ν1 0 13 (nI a')) 0 6 = nI a' := by rw [rd_wr, if_neg (by omega)]; exact y1.1
        rw [w1, w2, if_pos (show nI a' = nI a' from rfl)]
        refine Or.inr ⟨_, _, i + 1, rfl, rfl, by omega, x5, ?_, fun j hj => ?_, x6, fun k j k1 k2 => ?_⟩
        · rw [rd_wr, if_neg (by omega)]; exact y5
        · obtain ⟨d', r', z1, z2, z3, z4, z5, z6⟩ := hT' j hj
          exact ⟨d', r', z1, z2, z3, z4, by rw [rd_wr, if_neg (by omega)]; exact z5, by rw [rd_wr, if_neg (by omega)]; exact z6⟩
        · rw [rd_wr, if_neg (by omega)]; exact y6 k j k1 k2
      · have hlt : a' < t := by omega
        rw [if_neg (show ¬ nI a' = nI t by rw [eq_ok (by omega) (by omega)]; exact he)]
        by_cases h59 : a' < t ∧ c a' = 59
        · rw [if_pos h59, if_pos h59, bi_some, bi_some, if_neg (show ¬ (1 : Int32) = 0 by decide)]
          have x7 : xG μ (wr μ2 231 2 (nI (a' + 1))) := fun k j k1 k2 k3 => by rw [rd_wr, if_neg (by omega)]; exact x6 k j k1 k2 k3
          have y7 : mG ν (wr ν1 0 13 (nI (a' + 1))) := fun k j k1 k2 => by rw [rd_wr, if_neg (by omega)]; exact y6 k j k1 k2
          have hT2 : TR (wr μ2 231 2 (nI (a' + 1))) (wr ν1 0 13 (nI (a' + 1))) (i + 1) := by
            intro j hj
            obtain ⟨d', r', z1, z2, z3, z4, z5, z6⟩ := hT' j hj
            exact ⟨d', r', z1, z2, by rw [rd_wr, if_neg (by omega)]; exact z3, by rw [rd_wr, if_neg (by omega)]; exact z4, by rw [rd_wr, if_neg (by omega)]; exact z5, by rw [rd_wr, if_neg (by omega)]; exact z6⟩
          rcases T_lp ht hn b (i + 1) (a' + 1) f (g + 1) (wr μ2 231 2 (nI (a' + 1))) (wr ν1 0 13 (nI (a' + 1))) (by omega) (by omega) (by omega) (by omega) (by omega) (XT_at x1') (MT_at y1) (by rw [rd_wr, if_neg (by omega)]; exact y5) hT2 with z | z
          · exact Or.inl (L_no_tr z x7 y7)
          · exact Or.inr (L_yes_tr z x7 y7)
        · rw [if_neg h59, if_neg h59, bi_some, bi_some, if_pos (show (0 : Int32) = 0 from rfl), lX6_isText_12, if_pos (show (0 : Int32) = 0 from rfl)]
          have w1 : rd (wr ν1 0 13 (nI a')) 0 13 = nI a' := by rw [rd_wr, if_pos ⟨rfl, rfl⟩]
          have w2 : rd (wr ν1 0 13 (nI a')) 0 6 = nI t := by rw [rd_wr, if_neg (by omega)]; exact y1.1
          rw [w1, w2, if_neg (show ¬ nI a' = nI t by rw [eq_ok (by omega) (by omega)]; exact he)]
          exact Or.inl ⟨_, _, a', rfl, rfl, x1'.2.1, w1, x6, fun k j k1 k2 => by rw [rd_wr, if_neg (by omega)]; exact y6 k j k1 k2⟩
theorem T_all {n : Nat} {μ ν : hb_m} (h : RTx μ ν) (hn : 2147483648 ≤ n) : L_no μ ν (fX3_parse n μ) (fX6_isText n ν) ∨ L_yes μ ν (fX3_parse n μ) (fX6_isText n ν) := by
  obtain ⟨t, t60, t1, t2, t3⟩ := h
  unfold fX3_parse fX6_isText
  have hX : XT (wr (wr μ 231 2 0) 231 4 0) (rd ν 4) t 0 := by
    refine ⟨?_, ?_, fun i hi => ?_⟩
    · rw [rd_wr, if_neg (by omega), rd_wr, if_neg (by omega)]; exact t1
    · rw [rd_wr, if_neg (by omega), rd_wr, if_pos ⟨rfl, rfl⟩]; rfl
    · rw [rd_wr, if_neg (by omega), rd_wr, if_neg (by omega)]; exact t3 i hi
  have hM : MT (wr (wr ν 0 13 0) 0 15 0) (rd ν 4) t 0 := by
    refine ⟨?_, ?_, fun i hi => ?_⟩
    · rw [rd_wr, if_neg (by omega), rd_wr, if_neg (by omega)]; exact t2
    · rw [rd_wr, if_neg (by omega), rd_wr, if_pos ⟨rfl, rfl⟩]; rfl
    · rw [rd_wr, if_neg (by omega), rd_wr, if_neg (by omega)]
  have x7 : xG μ (wr (wr μ 231 2 0) 231 4 0) := fun k j k1 k2 k3 => by rw [rd_wr, if_neg (by omega), rd_wr, if_neg (by omega)]
  have y7 : mG ν (wr (wr ν 0 13 0) 0 15 0) := fun k j k1 k2 => by rw [rd_wr, if_neg (by omega), rd_wr, if_neg (by omega)]
  rcases T_lp (n := n) t60 hn 15 0 0 n n _ _ (by omega) (by omega) (by omega) (by omega) (by omega) hX hM (by rw [rd_wr, if_pos ⟨rfl, rfl⟩]; rfl) (fun j hj => by omega) with z | z
  · exact Or.inl (L_no_tr z x7 y7)
  · exact Or.inr (L_yes_tr z x7 y7)

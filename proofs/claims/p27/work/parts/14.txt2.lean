/-! BOTH SIDES: the text (2): one reading -/
theorem XT_fr {c : Nat → Int32} {t a : Nat} {μ μ' : hb_m} (h : XT μ c t a) (h1 : ∀ k j, (k = 231 ∧ (j = 1 ∨ j = 2)) ∨ k = 232 → rd μ' k j = rd μ k j) : XT μ' c t a := ⟨(h1 _ _ (by omega)).trans h.1, (h1 _ _ (by omega)).trans h.2.1, fun i hi => (h1 _ _ (by omega)).trans (h.2.2 i hi)⟩
theorem MT_fr {c : Nat → Int32} {t a : Nat} {ν ν' : hb_m} (h : MT ν c t a) (h1 : ∀ k j, (k = 0 ∧ (j = 6 ∨ j = 13)) ∨ k = 4 → rd ν' k j = rd ν k j) : MT ν' c t a := ⟨(h1 _ _ (by omega)).trans h.1, (h1 _ _ (by omega)).trans h.2.1, fun i hi => (h1 _ _ (by omega)).trans (h.2.2 i hi)⟩
theorem XT_at {c : Nat → Int32} {t a b : Nat} {μ : hb_m} (h : XT μ c t a) : XT (wr μ 231 2 (nI b)) c t b := ⟨by rw [rd_wr, if_neg (by omega)]; exact h.1, by rw [rd_wr, if_pos ⟨rfl, rfl⟩], fun i hi => by rw [rd_wr, if_neg (by omega)]; exact h.2.2 i hi⟩
theorem MT_at {c : Nat → Int32} {t a b : Nat} {ν : hb_m} (h : MT ν c t a) : MT (wr ν 0 13 (nI b)) c t b := ⟨by rw [rd_wr, if_neg (by omega)]; exact h.1, by rw [rd_wr, if_pos ⟨rfl, rfl⟩], fun i hi => by rw [rd_wr, if_neg (by omega)]; exact h.2.2 i hi⟩
theorem X_take {n t a : Nat} {p : Int32} {c : Nat → Int32} {μ : hb_m} (h : XT μ c t a) (ht : t ≤ 60) (ha : a ≤ t) : fX3_take n p μ = if a < t ∧ c a = p then some (1, wr μ 231 2 (nI (a + 1))) else some (0, μ) := by
  unfold fX3_take
  rw [h.1, h.2.1]
  by_cases hat : a < t
  · rw [if_neg (by rw [le_ok (by omega) (by omega)]; omega), ib_ok (by omega) (by omega), if_pos rfl, cl_ok (by omega), h.2.2 a hat]
    by_cases hc : c a = p
    · rw [if_pos hc, if_pos ⟨hat, hc⟩, li1, nI_add]
    · rw [if_neg hc, if_neg (fun q => hc q.2)]
  · rw [if_pos (by rw [le_ok (by omega) (by omega)]; omega), if_neg (fun q => hat q.1)]
theorem M_takes {n t a : Nat} {p : Int32} {c : Nat → Int32} {ν : hb_m} (h : MT ν c t a) (ht : t ≤ 60) (ha : a ≤ t) : fX6_takes n p ν = if a < t ∧ c a = p then some (1, wr ν 0 13 (nI (a + 1))) else some (0, wr ν 0 13 (nI a)) := by
  unfold fX6_takes
  rw [M_sees h ht ha, bi_some]
  have e : (a < t ∧ p ≤ c a ∧ c a ≤ p) = (a < t ∧ c a = p) := propext ⟨fun q => ⟨q.1, Int32.le_antisymm q.2.2 q.2.1⟩, fun q => ⟨q.1, by rw [q.2]; exact Int32.le_refl _, by rw [q.2]; exact Int32.le_refl _⟩⟩
  by_cases hc : a < t ∧ c a = p
  · have hc' : a < t ∧ p ≤ c a ∧ c a ≤ p := by rw [e]; exact hc
    rw [if_pos hc, if_pos hc']
    simp only [e10, if_false]
    rw [if_pos nar1, h.2.1, li1, nI_add]
  · have hc' : ¬ (a < t ∧ p ≤ c a ∧ c a ≤ p) := by rw [e]; exact hc
    rw [if_neg hc, if_neg hc', if_pos (show (0 : Int32) = 0 from rfl), if_pos nar0, h.2.1, Int32.add_zero]
def xF (i : Nat) (μ μ' : hb_m) : Prop := ∀ k j, (k ≠ 231 ∨ (j ≠ 2 ∧ j ≠ 3)) → (k ≠ 233 ∨ j ≠ i) → (k ≠ 234 ∨ j ≠ i) → rd μ' k j = rd μ k j
def mF (i : Nat) (ν ν' : hb_m) : Prop := ∀ k j, (k ≠ 0 ∨ (j ≠ 13 ∧ j ≠ 15)) → (k ≠ 11 ∨ (j ≠ 2 * i ∧ j ≠ 2 * i + 1)) → rd ν' k j = rd ν k j
def T_no (i : Nat) (c : Nat → Int32) (t : Nat) (μ ν : hb_m) (x y : Option (Int32 × hb_m)) : Prop := ∃ μ' ν' p, x = some (0, μ') ∧ y = some (0, ν') ∧ p ≤ t ∧ XT μ' c t p ∧ MT ν' c t p ∧ xF i μ μ' ∧ mF i ν ν'
def T_yes (i : Nat) (c : Nat → Int32) (t a : Nat) (μ ν : hb_m) (x y : Option (Int32 × hb_m)) : Prop := ∃ μ' ν' b d r, x = some (1, μ') ∧ y = some (1, ν') ∧ a + 3 ≤ b ∧ b ≤ t ∧ XT μ' c t b ∧ MT ν' c t b ∧ d ≤ 19 ∧ (r = -5 ∨ ∃ w, w ≤ 9999 ∧ r = nI w) ∧ rd μ' 233 i = nI d ∧ rd μ' 234 i = r ∧ rd ν' 11 (2 * i) = nI d ∧ rd ν' 11 (2 * i + 1) = r ∧ rd ν' 0 15 = nI (i + 1) ∧ xF i μ μ' ∧ mF i ν ν'
theorem M_sto {i : Nat} {a b : Int32} {m : hb_m} (h : rd m 0 15 = nI i) (hi : i < 15) : (if ib ((2 : Int32) * (rd m 0 15)) 64 then
if ib (((2 : Int32) * (rd (wr m 11 ((2 : Int32) * (rd m 0 15)).toNatClampNeg a) 0 15)) + (1 : Int32)) 64 then
some ((1 : Int32), (wr (wr (wr m 11 ((2 : Int32) * (rd m 0 15)).toNatClampNeg a) 11 (((2 : Int32) * (rd (wr m 11 ((2 : Int32) * (rd m 0 15)).toNatClampNeg a) 0 15)) + (1 : Int32)).toNatClampNeg b) 0 15 ((rd (wr (wr m 11 ((2 : Int32) * (rd m 0 15)).toNatClampNeg a) 11 (((2 : Int32) * (rd (wr m 11 ((2 : Int32) * (rd m 0 15)).toNatClampNeg a) 0 15)) + (1 : Int32)).toNatClampNeg b) 0 15) + (1 : Int32))))
else none
else none) = some (1, wr (wr (wr m 11 (2 * i) a) 11 (2 * i + 1) b) 0 15 (nI (i + 1))) := by
  have e2 : (2 : Int32) * nI i = nI (2 * i) := by rw [li2, pk_mul]
  have h1 : rd (wr m 11 (2 * i) a) 0 15 = nI i := by rw [rd_wr, if_neg (by omega)]; exact h
  have h2 : rd (wr (wr m 11 (2 * i) a) 11 (2 * i + 1) b) 0 15 = nI i := by rw [rd_wr, if_neg (by omega)]; exact h1
  rw [h, e2, ib_ok (by omega) (by omega), if_pos rfl, cl_ok (by omega), h1, e2, show nI (2 * i) + (1 : Int32) = nI (2 * i + 1) from nI_1 _, ib_ok (by omega) (by omega), if_pos rfl, cl_ok (by omega), h2, show nI i + (1 : Int32) = nI (i + 1) from nI_1 _]
theorem T_fin {i t a b d : Nat} {r : Int32} {c : Nat → Int32} {μ ν m w : hb_m} (hX : XT m c t b) (hM : MT w c t b) (hab : a + 3 ≤ b) (hbt : b ≤ t) (hd : d ≤ 19) (hr : r = -5 ∨ ∃ w, w ≤ 9999 ∧ r = nI w) (h3 : rd m 233 i = nI d) (hx : xF i μ m) (hm : mF i ν w) : T_yes i c t a μ ν (some (1, wr m 234 i r)) (some (1, wr (wr (wr w 11 (2 * i) (nI d)) 11 (2 * i + 1) r) 0 15 (nI (i + 1)))) := by
  refine ⟨_, _, b, d, r, rfl, rfl, hab, hbt, XT_fr hX (fun k j hk => by rw [rd_wr, if_neg (by omega)]), MT_fr hM (fun k j hk => by rw [rd_wr, if_neg (by omega), rd_wr, if_neg (by omega), rd_wr, if_neg (by omega)]), hd, hr, ?_, ?_, ?_, ?_, ?_, fun k j k1 k2 k3 => ?_, fun k j k1 k2 => ?_⟩
  · rw [rd_wr, if_neg (by omega)]; exact h3
  · rw [rd_wr, if_pos ⟨rfl, rfl⟩]
  · rw [rd_wr, if_neg (by omega), rd_wr, if_neg (by omega), rd_wr, if_pos ⟨rfl, rfl⟩]
  · rw [rd_wr, if_neg (by omega), rd_wr, if_pos ⟨rfl, rfl⟩]
  · rw [rd_wr, if_pos ⟨rfl, rfl⟩]
  · rw [rd_wr, if_neg (by omega)]; exact hx k j k1 k2 k3
  · rw [rd_wr, if_neg (by omega), rd_wr, if_neg (by omega), rd_wr, if_neg (by omega)]; exact hm k j k1 k2
theorem T_one {n i t a : Nat} {c : Nat → Int32} {μ ν : hb_m} (hX : XT μ c t a) (hM : MT ν c t a) (ht : t ≤ 60) (ha : a ≤ t) (hi : i < 15) (h15 : rd ν 0 15 = nI i) (hn : 2147483648 ≤ n) : T_no i c t μ ν (fX3_takeReading n (nI i) μ) (fX6_readsOne n ν) ∨ T_yes i c t a μ ν (fX3_takeReading n (nI i) μ) (fX6_readsOne n ν) := by
  unfold fX3_takeReading fX6_readsOne
  by_cases hd : dg c t a
  · have hd9 := (dg_dv hd).2
    have hat := hd.1
    obtain ⟨n1, n2, n3⟩ := nx_le (c := c) (t := t) (m := 19) 4 (dv c a) (a + 1) (by omega) (by omega)
    obtain ⟨μ1, e1, x1, x2, x3⟩ := X_num (n := n) (m := 19) ht (by omega) ha hX hd hn
    obtain ⟨ν1, e2, y1, y2⟩ := M_num (n := n) (m := 19) ht (by omega) ha hM hd hn
    generalize (nx c t 19 4 (dv c a) (a + 1)).1 = d at n1 x2 e2
    generalize (nx c t 19 4 (dv c a) (a + 1)).2 = a1 at n2 n3 x1 y1
    rw [li19, e1, e2, bi_some, bi_some, if_neg (show ¬ (1 : Int32) = 0 by decide), ib_ok hi (by omega), if_pos rfl, cl_ok (by omega), x2, if_neg (show ¬ nI d = -5 from fun q => by rw [neg_ne (by omega)] at q; exact q)]
    have x1' : XT (wr μ1 233 i (nI d)) c t a1 := XT_fr x1 (fun k j hk => by rw [rd_wr, if_neg (by omega)])
    have x4 : rd (wr μ1 233 i (nI d)) 233 i = nI d := by rw [rd_wr, if_pos ⟨rfl, rfl⟩]
    have x5 : xF i μ (wr μ1 233 i (nI d)) := fun k j k1 k2 k3 => by rw [rd_wr, if_neg (by omega)]; exact x3 k j k1
    have y5 : mF i ν ν1 := fun k j k1 k2 => y2 k j (by omega)
    generalize wr μ1 233 i (nI d) = μ2 at x1' x4 x5 ⊢
    rw [X_take x1' ht n3, M_takes y1 ht n3]
    by_cases h61 : a1 < t ∧ c a1 = 61
    · rw [if_pos h61, if_pos h61, bi_some, bi_some, if_neg (show ¬ (1 : Int32) = 0 by decide), if_neg (show ¬ (1 : Int32) = 0 by decide)]
      have x6 : XT (wr μ2 231 2 (nI (a1 + 1))) c t (a1 + 1) := XT_at x1'
      have x7 : rd (wr μ2 231 2 (nI (a1 + 1))) 233 i = nI d := by rw [rd_wr, if_neg (by omega)]; exact x4
      have x8 : xF i μ (wr μ2 231 2 (nI (a1 + 1))) := fun k j k1 k2 k3 => by rw [rd_wr, if_neg (by omega)]; exact x5 k j k1 k2 k3
      have y6 : MT (wr ν1 0 13 (nI (a1 + 1))) c t (a1 + 1) := MT_at y1
      have y8 : mF i ν (wr ν1 0 13 (nI (a1 + 1))) := fun k j k1 k2 => by rw [rd_wr, if_neg (by omega)]; exact y5 k j k1 k2
      have y9 : rd (wr ν1 0 13 (nI (a1 + 1))) 0 15 = nI i := by rw [rd_wr, if_neg (by omega), y2 _ _ (by omega)]; exact h15
      generalize wr μ2 231 2 (nI (a1 + 1)) = μ3 at x6 x7 x8 ⊢
      generalize wr ν1 0 13 (nI (a1 + 1)) = ν3 at y6 y8 y9 ⊢
      have ha2 : a1 + 1 ≤ t := by omega
      rw [X_take x6 ht ha2, M_takes y6 ht ha2]
      by_cases h63 : a1 + 1 < t ∧ c (a1 + 1) = 63
      · rw [if_pos h63, if_pos h63, bi_some, bi_some, if_neg (show ¬ (1 : Int32) = 0 by decide), if_neg (show ¬ (1 : Int32) = 0 by decide), if_neg (show ¬ (1 : Int32) = 0 by decide)]
        rw [M_sto (i := i) (by rw [rd_wr, if_neg (by omega)]; exact y9) hi]
        refine Or.inr (T_fin (b := a1 + 1 + 1) (XT_at x6) (MT_at y6) (by omega) (by omega) n1 (Or.inl rfl) ?_ (fun k j k1 k2 k3 => ?_) (fun k j k1 k2 => ?_))
        · rw [rd_wr, if_neg (by omega)]; exact x7
        · rw [rd_wr, if_neg (by omega)]; exact x8 k j k1 k2 k3
        · rw [rd_wr, if_neg (by omega)]; exact y8 k j k1 k2
      · rw [if_neg h63, if_neg h63, bi_some, bi_some, if_pos (show (0 : Int32) = 0 from rfl), if_pos (show (0 : Int32) = 0 from rfl)]
        have y6' : MT (wr ν3 0 13 (nI (a1 + 1))) c t (a1 + 1) := MT_at y6
        have y8' : mF i ν (wr ν3 0 13 (nI (a1 + 1))) := fun k j k1 k2 => by rw [rd_wr, if_neg (by omega)]; exact y8 k j k1 k2
        have y9' : rd (wr ν3 0 13 (nI (a1 + 1))) 0 15 = nI i := by rw [rd_wr, if_neg (by omega)]; exact y9
        generalize wr ν3 0 13 (nI (a1 + 1)) = ν4 at y6' y8' y9' ⊢
        by_cases hd2 : dg c t (a1 + 1)
        · have hd29 := (dg_dv hd2).2
          have hat2 := hd2.1
          obtain ⟨p1, p2, p3⟩ := nx_le (c := c) (t := t) (m := 9999) 4 (dv c (a1 + 1)) (a1 + 1 + 1) (by omega) (by omega)
          obtain ⟨μ5, e5, x11, x12, x13⟩ := X_num (n := n) (m := 9999) ht (by omega) ha2 x6 hd2 hn
          obtain ⟨ν5, e6, y11, y12⟩ := M_num (n := n) (m := 9999) ht (by omega) ha2 y6' hd2 hn
          generalize (nx c t 9999 4 (dv c (a1 + 1)) (a1 + 1 + 1)).1 = r at p1 x12 e6
          generalize (nx c t 9999 4 (dv c (a1 + 1)) (a1 + 1 + 1)).2 = a2 at p2 p3 x11 y11
          rw [li9999, e5, e6, bi_some, bi_some, if_neg (show ¬ (1 : Int32) = 0 by decide), if_pos (show (0 : Int32) = 0 from rfl), if_neg (show ¬ nI r = -5 from fun q => by rw [neg_ne (by omega)] at q; exact q), x12]
          rw [M_sto (i := i) (by rw [y12 _ _ (by omega)]; exact y9') hi]
          refine Or.inr (T_fin (b := a2) x11 y11 (by omega) p3 n1 (Or.inr ⟨r, p1, rfl⟩) ?_ (fun k j k1 k2 k3 => ?_) (fun k j k1 k2 => ?_))
          · rw [x13 _ _ (by omega)]; exact x7
          · rw [x13 k j k1]; exact x8 k j k1 k2 k3
          · rw [y12 k j (by omega)]; exact y8' k j k1 k2
        · rw [X_num0 ht ha2 x6 hd2, M_num0 ht ha2 y6' hd2, bi_some, bi_some, if_pos (show (0 : Int32) = 0 from rfl), if_pos (show (0 : Int32) = 0 from rfl), if_pos (show (-5 : Int32) = -5 from rfl)]
          exact Or.inl ⟨_, _, a1 + 1, rfl, rfl, ha2, x6, y6', x8, y8'⟩
    · rw [if_neg h61, if_neg h61, bi_some, bi_some, if_pos (show (0 : Int32) = 0 from rfl), if_pos (show (0 : Int32) = 0 from rfl)]
      exact Or.inl ⟨_, _, a1, rfl, rfl, n3, x1', MT_at y1, x5, fun k j k1 k2 => by rw [rd_wr, if_neg (by omega)]; exact y5 k j k1 k2⟩
  · rw [X_num0 ht ha hX hd, M_num0 ht ha hM hd, bi_some, bi_some, if_pos (show (0 : Int32) = 0 from rfl), if_pos (show (-5 : Int32) = -5 from rfl)]
    exact Or.inl ⟨_, _, a, rfl, rfl, ha, hX, hM, fun _ _ _ _ _ => rfl, fun _ _ _ _ => rfl⟩

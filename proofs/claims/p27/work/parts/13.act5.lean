/-! BOTH SIDES: acts (5): closing a year -/
theorem p_uN_co {ρ σ : Nat → Int32} {D Y d : Nat} (h : ∀ k, k < 131 + 71 * Y → σ k = ρ k) (hd : d < D) (h20 : D ≤ 20) : p_uN σ D Y d = p_uN ρ D Y d := by
  have hs : ∀ e, e < D → p_snd σ e = p_snd ρ e := fun e he => by
    unfold p_snd
    rw [h _ (by omega), h _ (by omega), h _ (by omega)]
  have hU : p_sU σ D = p_sU ρ D := sI_co D (fun e he => by rw [h _ (by omega), hs e he])
  have hF : p_sF σ D = p_sF ρ D := sI_co D (fun e he => by rw [h _ (by omega), h _ (by omega)])
  unfold p_uN p_est
  rw [hU, hF, hs d hd, h (35 + 5 * d) (by omega), h (32 + 5 * d) (by omega), h 5 (by omega), h (62 + 71 * Y) (by omega), h (63 + 71 * Y + d) (by omega)]
theorem M_c91 {n D Y : Nat} {s : hb_m} {k : Int32 → hb_m → Option (Int32 × hb_m)} (hD : rd s 1 1 = nI D) (hD20 : D ≤ 20) (hY : rd s 1 2 = nI Y) (hY4 : Y < 4) (hn : 2147483648 ≤ n) : ∃ s', lX6_close_91 n (nI Y) k n 0 s = k (nI D) s' ∧ (∀ c j, c ≠ 1 → rd s' c j = rd s c j) ∧ (∀ j, (j < 134 + 71 * Y ∨ 134 + 71 * Y + D ≤ j) → rd s' 1 j = rd s 1 j) ∧ ∀ d, d < D → rd s' 1 (134 + 71 * Y + d) = p_uN (rd s 1) D Y d := by
  obtain ⟨s', ⟨h1, h2, h3⟩, e⟩ := lo (S := hb_m) (fun g i t => lX6_close_91 n (nI Y) k g (nI i) t) D (fun t => k (nI D) t) (fun i t => (∀ c j, c ≠ 1 → rd t c j = rd s c j) ∧ (∀ j, (j < 134 + 71 * Y ∨ 134 + 71 * Y + i ≤ j) → rd t 1 j = rd s 1 j) ∧ ∀ d, d < i → rd t 1 (134 + 71 * Y + d) = p_uN (rd s 1) D Y d)
    (fun g t hI => by
      obtain ⟨h1, h2, h3⟩ := hI
      rw [lX6_close_91]
      rw [show (1 : Int32).toNatClampNeg = 1 from rfl, show ib 1 415 = true from by decide, if_pos rfl, h2 1 (by omega), hD, if_pos (by rw [le_ok (by omega) (by omega)]; omega)])
    (fun g i t hi hI => by
      obtain ⟨h1, h2, h3⟩ := hI
      refine ⟨wr t 1 (131 + 71 * Y + (3 + i)) (p_uN (rd s 1) D Y i), ⟨fun c j hc => by rw [rd_wr, if_neg (by omega)]; exact h1 c j hc, fun j hj => by rw [rd_wr, if_neg (by omega)]; exact h2 j (by omega), fun d hd => ?_⟩, ?_⟩
      · rw [rd_wr]
        by_cases e : d = i
        · subst e
          rw [if_pos ⟨rfl, by omega⟩]
        · rw [if_neg (by omega)]
          exact h3 d (by omega)
      · rw [lX6_close_91]
        rw [show (1 : Int32).toNatClampNeg = 1 from rfl, show ib 1 415 = true from by decide, if_pos rfl, h2 1 (by omega), hD, if_neg (by rw [le_ok (by omega) (by omega)]; omega), li3, nI_add, M_old, bi_some, M_uN (D := D) (Y := Y) ((h2 1 (by omega)).trans hD) hD20 ((h2 2 (by omega)).trans hY) (by omega) (by omega) hn, bi_some, ib_ok (by omega) (by omega), if_pos rfl, cl_ok (by omega), p_uN_co (ρ := rd s 1) (fun j hj => h2 j (by omega)) hi hD20, show nI i + 1 = nI (i + 1) from nI_1 i])
    n 0 s (by omega) (by omega) ⟨fun _ _ _ => rfl, fun _ _ => rfl, fun d hd => by omega⟩
  exact ⟨s', e, h1, h2, h3⟩
theorem rd_w9 {s : hb_m} {i j : Nat} {v : Int32} : rd (wr s 1 i v) 9 j = rd s 9 j := by rw [rd_wr, if_neg (by omega)]
theorem rd_w10 {s : hb_m} {i j : Nat} {v : Int32} : rd (wr s 1 i v) 10 j = rd s 10 j := by rw [rd_wr, if_neg (by omega)]
theorem M_c307 {n D : Nat} {v : Int32} {s : hb_m} {k : Int32 → hb_m → Option (Int32 × hb_m)} (hD : rd s 1 1 = nI D) (hD20 : D ≤ 20) (hn : 2147483648 ≤ n) : ∃ s', lX6_close_307 n v k n 0 s = k (nI D) s' ∧ (∀ c j, c ≠ 1 → rd s' c j = rd s c j) ∧ (∀ j, (j < 33 ∨ 131 ≤ j ∨ (j - 33) % 5 ≠ 0) → rd s' 1 j = rd s 1 j) ∧ (∀ d, d < D → rd s' 1 (33 + 5 * d) = rd s 1 (34 + 5 * d)) := by
  obtain ⟨s', ⟨h1, h2, h3⟩, e⟩ := lo (S := hb_m) (fun g i t => lX6_close_307 n v k g (nI i) t) D (fun t => k (nI D) t) (fun i t => (∀ c j, c ≠ 1 → rd t c j = rd s c j) ∧ (∀ j, (j < 33 ∨ 131 ≤ j ∨ (j - 33) % 5 ≠ 0) → rd t 1 j = rd s 1 j) ∧ (∀ d, d < i → rd t 1 (33 + 5 * d) = rd s 1 (34 + 5 * d)))
    (fun g t hI => by
      obtain ⟨h1, h2, h3⟩ := hI
      rw [lX6_close_307]
      rw [show (1 : Int32).toNatClampNeg = 1 from rfl, show ib 1 415 = true from by decide, if_pos rfl, h2 1 (by omega), hD, if_pos (by rw [le_ok (by omega) (by omega)]; omega)])
    (fun g i t hi hI => by
      obtain ⟨h1, h2, h3⟩ := hI
      refine ⟨wr t 1 (31 + 5 * i + 2) (rd s 1 (34 + 5 * i)), ⟨fun c j hc => by rw [rd_wr, if_neg (by omega)]; exact h1 c j hc, fun j hj => by rw [rd_wr, if_neg (by omega)]; exact h2 j (by omega), fun d hd => ?_⟩, ?_⟩
      · rw [rd_wr]
        by_cases e : d = i
        · subst e
          rw [if_pos ⟨rfl, by omega⟩]
        · rw [if_neg (by omega)]
          exact h3 d (by omega)
      · rw [lX6_close_307]
        rw [show (1 : Int32).toNatClampNeg = 1 from rfl, show ib 1 415 = true from by decide, if_pos rfl, h2 1 (by omega), hD, if_neg (by rw [le_ok (by omega) (by omega)]; omega), show (3 : Int32) = nI 3 from rfl, show (2 : Int32) = nI 2 from rfl, M_of (by omega), bi_some, M_puts (by omega), bv_some, show nI i + 1 = nI (i + 1) from nI_1 i, show 31 + 5 * i + 3 = 34 + 5 * i by omega, h2 (34 + 5 * i) (by omega)])
    n 0 s (by omega) (by omega) ⟨fun _ _ _ => rfl, fun _ _ => rfl, fun d hd => by omega⟩
  exact ⟨s', e, h1, h2, h3⟩
/-- what the loop over the flats has laid -/
def c126 (s t : hb_m) (Y i : Nat) : Prop := (∀ c j, c ≠ 1 → rd t c j = rd s c j) ∧ (∀ k, (k < 7 ∨ 7 + 3 * i ≤ k ∨ (k - 7) % 3 = 0) → (k < 154 + 71 * Y ∨ (154 + 71 * Y + 2 * i ≤ k ∧ k < 170 + 71 * Y) ∨ (170 + 71 * Y + 2 * i ≤ k ∧ k < 186 + 71 * Y) ∨ 186 + 71 * Y + 2 * i ≤ k) → rd t 1 k = rd s 1 k) ∧ (∀ f, f < i → rd t 1 (8 + 3 * f) = 0 ∧ rd t 1 (9 + 3 * f) = -5 ∧ rd t 1 (154 + 71 * Y + 2 * f) = rd s 1 (8 + 3 * f) ∧ rd t 1 (155 + 71 * Y + 2 * f) = rd s 1 (9 + 3 * f)) ∧ (∀ k, k < 2 * i → rd t 1 (170 + 71 * Y + k) = p_bil (rd s 9) (rd s 10) (fun f => (rd s 1 (8 + 3 * f)).toNatClampNeg) (fun f => rd s 1 (9 + 3 * f)) k ∧ rd t 1 (186 + 71 * Y + k) = 0)
theorem M_c126 {n F Y : Nat} {s : hb_m} {k : Int32 → hb_m → Option (Int32 × hb_m)} (hF : rd s 1 0 = nI F) (hF8 : F ≤ 8) (hY4 : Y < 4) (hmo : ∀ f, f < F → rg (rd s 1 (8 + 3 * f)) 0 11) (hn : 2147483648 ≤ n) : ∃ s', lX6_close_126 n (nI Y) k n 0 s = k (nI F) s' ∧ c126 s s' Y F := by
  obtain ⟨s', h, e⟩ := lo (S := hb_m) (fun g i t => lX6_close_126 n (nI Y) k g (nI i) t) F (fun t => k (nI F) t) (fun i t => c126 s t Y i)
    (fun g t hI => by
      obtain ⟨h1, h2, h3, h4⟩ := hI
      rw [lX6_close_126]
      rw [show (0 : Int32).toNatClampNeg = 0 from rfl, show ib 0 415 = true from by decide, if_pos rfl, h2 0 (by omega) (by omega), hF, if_pos (by rw [le_ok (by omega) (by omega)]; omega)])
    (fun g i t hi hI => by
      obtain ⟨h1, h2, h3, h4⟩ := hI
      have hb9 : rd t 9 i = rd s 9 i := h1 9 i (by omega)
      have hb10 : rd t 10 i = rd s 10 i := h1 10 i (by omega)
      have hm : rd t 1 (8 + 3 * i) = rd s 1 (8 + 3 * i) := h2 _ (by omega) (by omega)
      have hp : rd t 1 (9 + 3 * i) = rd s 1 (9 + 3 * i) := h2 _ (by omega) (by omega)
      obtain ⟨m0, -, m11⟩ := hmo i hi
      have ht : ∀ (z : Int32) (w : hb_m), fX6_tenantOf n (nI i) z (rd s 1 (8 + 3 * i)) (rd s 1 (9 + 3 * i)) w = some (p_ten (rd w 9 i) (rd w 10 i) (rd s 1 (8 + 3 * i)).toNatClampNeg (rd s 1 (9 + 3 * i)) z, w) := by
        intro z w
        have := M_ten (n := n) (f := i) (mo := (rd s 1 (8 + 3 * i)).toNatClampNeg) (part := rd s 1 (9 + 3 * i)) (s := z) (μ := w) (by omega) (by omega) hn
        rw [← m0] at this
        exact this
      have d0 : 2 * i / 2 = i := by omega
      have d1 : (2 * i + 1) / 2 = i := by omega
      have q0 : 2 * i % 2 = 0 := by omega
      have q1 : (2 * i + 1) % 2 = 1 := by omega
      refine ⟨wr (wr (wr (wr (wr (wr (wr (wr t 1 (131 + 71 * Y + (23 + 2 * i)) (rd s 1 (8 + 3 * i))) 1 (131 + 71 * Y + (23 + 2 * i + 1)) (rd s 1 (9 + 3 * i))) 1 (131 + 71 * Y + (39 + 2 * i)) (p_ten (rd s 9 i) (rd s 10 i) (rd s 1 (8 + 3 * i)).toNatClampNeg (rd s 1 (9 + 3 * i)) 0)) 1 (131 + 71 * Y + (39 + 2 * i + 1)) (p_ten (rd s 9 i) (rd s 10 i) (rd s 1 (8 + 3 * i)).toNatClampNeg (rd s 1 (9 + 3 * i)) 1)) 1 (131 + 71 * Y + (55 + 2 * i)) 0) 1 (131 + 71 * Y + (55 + 2 * i + 1)) 0) 1 (7 + 3 * i + 1) 0) 1 (7 + 3 * i + 2) (-5), ?_, ?_⟩
      · have hW : ∀ k, rd (wr (wr (wr (wr (wr (wr (wr (wr t 1 (131 + 71 * Y + (23 + 2 * i)) (rd s 1 (8 + 3 * i))) 1 (131 + 71 * Y + (23 + 2 * i + 1)) (rd s 1 (9 + 3 * i))) 1 (131 + 71 * Y + (39 + 2 * i)) (p_ten (rd s 9 i) (rd s 10 i) (rd s 1 (8 + 3 * i)).toNatClampNeg (rd s 1 (9 + 3 * i)) 0)) 1 (131 + 71 * Y + (39 + 2 * i + 1)) (p_ten (rd s 9 i) (rd s 10 i) (rd s 1 (8 + 3 * i)).toNatClampNeg (rd s 1 (9 + 3 * i)) 1)) 1 (131 + 71 * Y + (55 + 2 * i)) 0) 1 (131 + 71 * Y + (55 + 2 * i + 1)) 0) 1 (7 + 3 * i + 1) 0) 1 (7 + 3 * i + 2) (-5)) 1 k = if k = 9 + 3 * i then -5 else if k = 8 + 3 * i then 0 else if k = 187 + 71 * Y + 2 * i then 0 else if k = 186 + 71 * Y + 2 * i then 0 else if k = 171 + 71 * Y + 2 * i then p_ten (rd s 9 i) (rd s 10 i) (rd s 1 (8 + 3 * i)).toNatClampNeg (rd s 1 (9 + 3 * i)) 1 else if k = 170 + 71 * Y + 2 * i then p_ten (rd s 9 i) (rd s 10 i) (rd s 1 (8 + 3 * i)).toNatClampNeg (rd s 1 (9 + 3 * i)) 0 else if k = 155 + 71 * Y + 2 * i then rd s 1 (9 + 3 * i) else if k = 154 + 71 * Y + 2 * i then rd s 1 (8 + 3 * i) else rd t 1 k := by
          intro k
          rw [rd_wr, rd_wr, rd_wr, rd_wr, rd_wr, rd_wr, rd_wr, rd_wr, show 131 + 71 * Y + (23 + 2 * i) = 154 + 71 * Y + 2 * i by omega, show 131 + 71 * Y + (23 + 2 * i + 1) = 155 + 71 * Y + 2 * i by omega, show 131 + 71 * Y + (39 + 2 * i) = 170 + 71 * Y + 2 * i by omega, show 131 + 71 * Y + (39 + 2 * i + 1) = 171 + 71 * Y + 2 * i by omega, show 131 + 71 * Y + (55 + 2 * i) = 186 + 71 * Y + 2 * i by omega, show 131 + 71 * Y + (55 + 2 * i + 1) = 187 + 71 * Y + 2 * i by omega, show 7 + 3 * i + 1 = 8 + 3 * i by omega, show 7 + 3 * i + 2 = 9 + 3 * i by omega]
          simp only [true_and]
        refine ⟨fun c j hc => ?_, fun k hk hk2 => ?_, fun f hf => ?_, fun k hk => ?_⟩
        · rw [rd_wr, if_neg (by omega), rd_wr, if_neg (by omega), rd_wr, if_neg (by omega), rd_wr, if_neg (by omega), rd_wr, if_neg (by omega), rd_wr, if_neg (by omega), rd_wr, if_neg (by omega), rd_wr, if_neg (by omega)]
          exact h1 c j hc
        · rw [hW, if_neg (by omega), if_neg (by omega), if_neg (by omega), if_neg (by omega), if_neg (by omega), if_neg (by omega), if_neg (by omega), if_neg (by omega)]
          exact h2 k (by omega) (by omega)
        · by_cases e : f = i
          · subst e
            refine ⟨?_, ?_, ?_, ?_⟩
            · rw [hW, if_neg (by omega), if_pos rfl]
            · rw [hW, if_pos rfl]
            · rw [hW, if_neg (by omega), if_neg (by omega), if_neg (by omega), if_neg (by omega), if_neg (by omega), if_neg (by omega), if_neg (by omega), if_pos rfl]
            · rw [hW, if_neg (by omega), if_neg (by omega), if_neg (by omega), if_neg (by omega), if_neg (by omega), if_neg (by omega), if_pos rfl]
          · obtain ⟨x1, x2, x3, x4⟩ := h3 f (by omega)
            refine ⟨?_, ?_, ?_, ?_⟩
            · rw [hW, if_neg (by omega), if_neg (by omega), if_neg (by omega), if_neg (by omega), if_neg (by omega), if_neg (by omega), if_neg (by omega), if_neg (by omega)]; exact x1
            · rw [hW, if_neg (by omega), if_neg (by omega), if_neg (by omega), if_neg (by omega), if_neg (by omega), if_neg (by omega), if_neg (by omega), if_neg (by omega)]; exact x2
            · rw [hW, if_neg (by omega), if_neg (by omega), if_neg (by omega), if_neg (by omega), if_neg (by omega), if_neg (by omega), if_neg (by omega), if_neg (by omega)]; exact x3
            · rw [hW, if_neg (by omega), if_neg (by omega), if_neg (by omega), if_neg (by omega), if_neg (by omega), if_neg (by omega), if_neg (by omega), if_neg (by omega)]; exact x4
        · by_cases e0 : k = 2 * i
          · subst e0
            constructor
            · rw [hW, if_neg (by omega), if_neg (by omega), if_neg (by omega), if_neg (by omega), if_neg (by omega), if_pos rfl]
              unfold p_bil
              rw [d0, q0]
              rfl
            · rw [hW, if_neg (by omega), if_neg (by omega), if_neg (by omega), if_pos rfl]
          · by_cases e1 : k = 2 * i + 1
            · subst e1
              constructor
              · rw [hW, if_neg (by omega), if_neg (by omega), if_neg (by omega), if_neg (by omega), if_pos (by omega)]
                unfold p_bil
                rw [d1, q1]
                rfl
              · rw [hW, if_neg (by omega), if_neg (by omega), if_pos (by omega)]
            · obtain ⟨x1, x2⟩ := h4 k (by omega)
              constructor
              · rw [hW, if_neg (by omega), if_neg (by omega), if_neg (by omega), if_neg (by omega), if_neg (by omega), if_neg (by omega), if_neg (by omega), if_neg (by omega)]; exact x1
              · rw [hW, if_neg (by omega), if_neg (by omega), if_neg (by omega), if_neg (by omega), if_neg (by omega), if_neg (by omega), if_neg (by omega), if_neg (by omega)]; exact x2
      · rw [lX6_close_126]
        rw [show (0 : Int32).toNatClampNeg = 0 from rfl, show ib 0 415 = true from by decide, if_pos rfl, h2 0 (by omega) (by omega), hF, if_neg (by rw [le_ok (by omega) (by omega)]; omega), show (1 : Int32) = nI 1 from rfl, show (2 : Int32) = nI 2 from rfl, show (3 : Int32) = nI 3 from rfl, show (7 : Int32) = nI 7 from rfl, show (23 : Int32) = nI 23 from rfl, show (39 : Int32) = nI 39 from rfl, show (55 : Int32) = nI 55 from rfl, pk_mul, pk_mul, nI_add, nI_add, nI_add, nI_add, nI_add, nI_add, nI_add, nI_add, nI_add, M_ofFlat (by omega), bi_some, M_ofFlat (by omega), bi_some, M_old, bi_some, ib_ok (by omega) (by omega), if_pos rfl, cl_ok (by omega), M_old, bi_some, ib_ok (by omega) (by omega), if_pos rfl, cl_ok (by omega), M_old, bi_some, show 7 + 3 * i + 1 = 8 + 3 * i by omega, show 7 + 3 * i + 2 = 9 + 3 * i by omega, hm, hp, ht, bi_some, ib_ok (show 131 + 71 * Y + (39 + 2 * i) < 415 by omega) (by omega), if_pos rfl, cl_ok (show 131 + 71 * Y + (39 + 2 * i) < 2147483648 by omega), M_old, bi_some, ht, bi_some, ib_ok (show 131 + 71 * Y + (39 + 2 * i + 1) < 415 by omega) (by omega), if_pos rfl, cl_ok (show 131 + 71 * Y + (39 + 2 * i + 1) < 2147483648 by omega), M_old, bi_some, ib_ok (show 131 + 71 * Y + (55 + 2 * i) < 415 by omega) (by omega), if_pos rfl, cl_ok (show 131 + 71 * Y + (55 + 2 * i) < 2147483648 by omega), M_old, bi_some, ib_ok (show 131 + 71 * Y + (55 + 2 * i + 1) < 415 by omega) (by omega), if_pos rfl, cl_ok (show 131 + 71 * Y + (55 + 2 * i + 1) < 2147483648 by omega), ib_ok (show 8 + 3 * i < 415 by omega) (by omega), if_pos rfl, ib_ok (show 9 + 3 * i < 415 by omega) (by omega), if_pos rfl, cl_ok (show 8 + 3 * i < 2147483648 by omega), cl_ok (show 9 + 3 * i < 2147483648 by omega)]
        simp only [rd_w9, rd_w10, hb9, hb10, nI_add])
    n 0 s (by omega) (by omega) ⟨fun _ _ _ => rfl, fun _ _ _ => rfl, fun f hf => by omega, fun k hk => by omega⟩
  exact ⟨s', e, h⟩

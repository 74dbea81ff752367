/-! BOTH SIDES: acts (8): correct -/
def c101 (s t : hb_m) (y i : Nat) : Prop := (∀ c j, c ≠ 1 → rd t c j = rd s c j) ∧ (∀ j, (j < 170 + 71 * y ∨ (170 + 71 * y + i ≤ j ∧ j < 186 + 71 * y) ∨ 186 + 71 * y + i ≤ j) → rd t 1 j = rd s 1 j) ∧ (∀ k, k < i → rd t 1 (170 + 71 * y + k) = p_bil (rd s 9) (rd s 10) (fun f => (rd s 1 (154 + 71 * y + 2 * f)).toNatClampNeg) (fun f => rd s 1 (155 + 71 * y + 2 * f)) k ∧ rd t 1 (186 + 71 * y + k) = rd s 1 (186 + 71 * y + k) + (p_bil (rd s 9) (rd s 10) (fun f => (rd s 1 (154 + 71 * y + 2 * f)).toNatClampNeg) (fun f => rd s 1 (155 + 71 * y + 2 * f)) k - rd s 1 (170 + 71 * y + k)))
def q101 (s : hb_m) (y : Nat) : Nat → Int32 := sI (fun k => if p_bil (rd s 9) (rd s 10) (fun f => (rd s 1 (154 + 71 * y + 2 * f)).toNatClampNeg) (fun f => rd s 1 (155 + 71 * y + 2 * f)) k - rd s 1 (170 + 71 * y + k) = 0 then 0 else 1)
theorem M_c101 {n F y : Nat} {p2 p3 : Int32} {s : hb_m} {k : Int32 → Int32 → hb_m → Option (Int32 × hb_m)} (hF : rd s 1 0 = nI F) (hF8 : F ≤ 8) (hy : y < 4) (hmo : ∀ f, f < F → rg (rd s 1 (154 + 71 * y + 2 * f)) 0 11) (hn : 2147483648 ≤ n) : ∃ s', lX6_correct_101 n (nI y) p2 p3 k n 0 0 s = k (nI (2 * F)) (q101 s y (2 * F)) s' ∧ c101 s s' y (2 * F) := by
  obtain ⟨⟨a, s'⟩, ⟨ha, h⟩, e⟩ := lo (S := Int32 × hb_m) (fun g i t => lX6_correct_101 n (nI y) p2 p3 k g (nI i) t.1 t.2) (2 * F) (fun t => k (nI (2 * F)) t.1 t.2) (fun i t => t.1 = q101 s y i ∧ c101 s t.2 y i)
    (fun g t hI => by
      obtain ⟨a, t⟩ := t
      obtain ⟨ha, h1, h2, h3⟩ := hI
      dsimp only at ha h1 h2 h3 ⊢
      rw [lX6_correct_101]
      rw [show (0 : Int32).toNatClampNeg = 0 from rfl, show ib 0 415 = true from by decide, if_pos rfl, h2 0 (by omega), hF, li2, pk_mul, if_pos (by rw [le_ok (by omega) (by omega)]; omega)])
    (fun g i t hi hI => by
      obtain ⟨a, t⟩ := t
      obtain ⟨ha, h1, h2, h3⟩ := hI
      dsimp only at ha h1 h2 h3 ⊢
      have hf : i / 2 < F := by omega
      have hb9 : rd t 9 (i / 2) = rd s 9 (i / 2) := h1 9 _ (by omega)
      have hb10 : rd t 10 (i / 2) = rd s 10 (i / 2) := h1 10 _ (by omega)
      obtain ⟨m0, -, m11⟩ := hmo (i / 2) hf
      have hm : rd t 1 (154 + 71 * y + 2 * (i / 2)) = rd s 1 (154 + 71 * y + 2 * (i / 2)) := h2 _ (by omega)
      have hp : rd t 1 (155 + 71 * y + 2 * (i / 2)) = rd s 1 (155 + 71 * y + 2 * (i / 2)) := h2 _ (by omega)
      have hob : rd t 1 (170 + 71 * y + i) = rd s 1 (170 + 71 * y + i) := h2 _ (by omega)
      have hoa : rd t 1 (186 + 71 * y + i) = rd s 1 (186 + 71 * y + i) := h2 _ (by omega)
      have ht : ∀ (z : Int32), fX6_tenantOf n (nI (i / 2)) z (rd s 1 (154 + 71 * y + 2 * (i / 2))) (rd s 1 (155 + 71 * y + 2 * (i / 2))) t = some (p_ten (rd s 9 (i / 2)) (rd s 10 (i / 2)) (rd s 1 (154 + 71 * y + 2 * (i / 2))).toNatClampNeg (rd s 1 (155 + 71 * y + 2 * (i / 2))) z, t) := by
        intro z
        have := M_ten (n := n) (f := i / 2) (mo := (rd s 1 (154 + 71 * y + 2 * (i / 2))).toNatClampNeg) (part := rd s 1 (155 + 71 * y + 2 * (i / 2))) (s := z) (μ := t) (by omega) (by omega) hn
        rw [← m0, hb9, hb10] at this
        exact this
      have key : ∀ v, v = p_bil (rd s 9) (rd s 10) (fun f => (rd s 1 (154 + 71 * y + 2 * f)).toNatClampNeg) (fun f => rd s 1 (155 + 71 * y + 2 * f)) i → c101 s (wr (wr t 1 (131 + 71 * y + (55 + i)) (rd s 1 (186 + 71 * y + i) + (v - rd s 1 (170 + 71 * y + i)))) 1 (131 + 71 * y + (39 + i)) v) y (i + 1) := by
        intro v hv
        refine ⟨fun c j hc => ?_, fun j hj => ?_, fun k hk => ?_⟩
        · rw [rd_wr, if_neg (by omega), rd_wr, if_neg (by omega)]; exact h1 c j hc
        · rw [rd_wr, if_neg (by omega), rd_wr, if_neg (by omega)]; exact h2 j (by omega)
        · by_cases q : k = i
          · subst q
            constructor
            · rw [rd_wr, if_pos ⟨rfl, by omega⟩]; exact hv
            · rw [rd_wr, if_neg (by omega), rd_wr, if_pos ⟨rfl, by omega⟩, hv]
          · rw [rd_wr, if_neg (by omega), rd_wr, if_neg (by omega), rd_wr, if_neg (by omega), rd_wr, if_neg (by omega)]
            exact h3 k (by omega)
      have hb : p_bil (rd s 9) (rd s 10) (fun f => (rd s 1 (154 + 71 * y + 2 * f)).toNatClampNeg) (fun f => rd s 1 (155 + 71 * y + 2 * f)) i = p_ten (rd s 9 (i / 2)) (rd s 10 (i / 2)) (rd s 1 (154 + 71 * y + 2 * (i / 2))).toNatClampNeg (rd s 1 (155 + 71 * y + 2 * (i / 2))) (nI (i % 2)) := rfl
      generalize hv : p_bil (rd s 9) (rd s 10) (fun f => (rd s 1 (154 + 71 * y + 2 * f)).toNatClampNeg) (fun f => rd s 1 (155 + 71 * y + 2 * f)) i = v at hb key
      refine ⟨(q101 s y (i + 1), wr (wr t 1 (131 + 71 * y + (55 + i)) (rd s 1 (186 + 71 * y + i) + (v - rd s 1 (170 + 71 * y + i)))) 1 (131 + 71 * y + (39 + i)) v), ⟨rfl, key v rfl⟩, ?_⟩
      have hq : q101 s y (i + 1) = q101 s y i + (if v - rd s 1 (170 + 71 * y + i) = 0 then 0 else 1) := by
        rw [← hv]
        rfl
      rw [hq, ← ha]
      rw [lX6_correct_101]
      dsimp only
      rw [show (0 : Int32).toNatClampNeg = 0 from rfl, show ib 0 415 = true from by decide, if_pos rfl, h2 0 (by omega), hF, show (2 : Int32) = nI 2 from rfl, pk_mul, if_neg (by rw [le_ok (by omega) (by omega)]; omega), pk_rem (by omega) (by omega) (by omega), div_ok (by omega) (by omega) (by omega), show (23 : Int32) = nI 23 from rfl, show (39 : Int32) = nI 39 from rfl, show (55 : Int32) = nI 55 from rfl, show (1 : Int32) = nI 1 from rfl, pk_mul, nI_add, nI_add, nI_add, nI_add, nI_add]
      have hob' : rd t 1 (131 + 71 * y + (39 + i)) = rd s 1 (170 + 71 * y + i) := by rw [← hob, show 131 + 71 * y + (39 + i) = 170 + 71 * y + i by omega]
      have hoa' : rd t 1 (131 + 71 * y + (55 + i)) = rd s 1 (186 + 71 * y + i) := by rw [← hoa, show 131 + 71 * y + (55 + i) = 186 + 71 * y + i by omega]
      by_cases hodd : i % 2 = 1
      · rw [hodd] at hb
        rw [if_pos (by rw [hodd])]
        rw [M_old, bi_some, ib_ok (show 131 + 71 * y + (23 + 2 * (i / 2)) < 415 by omega) (by omega), if_pos rfl, cl_ok (show 131 + 71 * y + (23 + 2 * (i / 2)) < 2147483648 by omega), M_old, bi_some, ib_ok (show 131 + 71 * y + (23 + 2 * (i / 2) + 1) < 415 by omega) (by omega), if_pos rfl, cl_ok (show 131 + 71 * y + (23 + 2 * (i / 2) + 1) < 2147483648 by omega), show 131 + 71 * y + (23 + 2 * (i / 2)) = 154 + 71 * y + 2 * (i / 2) by omega, show 131 + 71 * y + (23 + 2 * (i / 2) + 1) = 155 + 71 * y + 2 * (i / 2) by omega, hm, hp, ht, bi_some, ← hb, M_old, bi_some, ib_ok (show 131 + 71 * y + (39 + i) < 415 by omega) (by omega), if_pos rfl, cl_ok (show 131 + 71 * y + (39 + i) < 2147483648 by omega), hob']
        by_cases z : v - rd s 1 (170 + 71 * y + i) = 0
        · rw [if_pos z, if_pos z, M_old, bi_some, ib_ok (show 131 + 71 * y + (55 + i) < 415 by omega) (by omega), if_pos rfl, if_pos rfl, cl_ok (show 131 + 71 * y + (55 + i) < 2147483648 by omega), hoa', M_old, bi_some, ib_ok (show 131 + 71 * y + (39 + i) < 415 by omega) (by omega), if_pos rfl, cl_ok (show 131 + 71 * y + (39 + i) < 2147483648 by omega)]
        · rw [if_neg z, if_neg z, M_old, bi_some, ib_ok (show 131 + 71 * y + (55 + i) < 415 by omega) (by omega), if_pos rfl, if_pos rfl, cl_ok (show 131 + 71 * y + (55 + i) < 2147483648 by omega), hoa', M_old, bi_some, ib_ok (show 131 + 71 * y + (39 + i) < 415 by omega) (by omega), if_pos rfl, cl_ok (show 131 + 71 * y + (39 + i) < 2147483648 by omega)]
      · have hev : i % 2 = 0 := by omega
        rw [hev, show nI 0 = (0 : Int32) from rfl] at hb
        rw [if_neg (by rw [hev]; decide)]
        rw [M_old, bi_some, ib_ok (show 131 + 71 * y + (23 + 2 * (i / 2)) < 415 by omega) (by omega), if_pos rfl, cl_ok (show 131 + 71 * y + (23 + 2 * (i / 2)) < 2147483648 by omega), M_old, bi_some, ib_ok (show 131 + 71 * y + (23 + 2 * (i / 2) + 1) < 415 by omega) (by omega), if_pos rfl, cl_ok (show 131 + 71 * y + (23 + 2 * (i / 2) + 1) < 2147483648 by omega), show 131 + 71 * y + (23 + 2 * (i / 2)) = 154 + 71 * y + 2 * (i / 2) by omega, show 131 + 71 * y + (23 + 2 * (i / 2) + 1) = 155 + 71 * y + 2 * (i / 2) by omega, hm, hp, ht, bi_some, ← hb, M_old, bi_some, ib_ok (show 131 + 71 * y + (39 + i) < 415 by omega) (by omega), if_pos rfl, cl_ok (show 131 + 71 * y + (39 + i) < 2147483648 by omega), hob']
        by_cases z : v - rd s 1 (170 + 71 * y + i) = 0
        · rw [if_pos z, if_pos z, M_old, bi_some, ib_ok (show 131 + 71 * y + (55 + i) < 415 by omega) (by omega), if_pos rfl, if_pos rfl, cl_ok (show 131 + 71 * y + (55 + i) < 2147483648 by omega), hoa', M_old, bi_some, ib_ok (show 131 + 71 * y + (39 + i) < 415 by omega) (by omega), if_pos rfl, cl_ok (show 131 + 71 * y + (39 + i) < 2147483648 by omega)]
        · rw [if_neg z, if_neg z, M_old, bi_some, ib_ok (show 131 + 71 * y + (55 + i) < 415 by omega) (by omega), if_pos rfl, if_pos rfl, cl_ok (show 131 + 71 * y + (55 + i) < 2147483648 by omega), hoa', M_old, bi_some, ib_ok (show 131 + 71 * y + (39 + i) < 415 by omega) (by omega), if_pos rfl, cl_ok (show 131 + 71 * y + (39 + i) < 2147483648 by omega)])
    n 0 (0, s) (by omega) (by omega) ⟨rfl, fun _ _ _ => rfl, fun _ _ => rfl, fun k hk => by omega⟩
  dsimp only at ha h e
  rw [ha] at e
  exact ⟨s', e, h⟩

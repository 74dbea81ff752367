/-! THE LAW'S END -/
theorem X_set0 {n h : Nat} {μ : hb_m} {σ : Nat → Int32} {G : Nat → Nat → Int32} {v : Int32} (hS : Sim μ 0 σ) (hH : HR μ h G) (hn : 2147483648 ≤ n) (h0 : 0 ≤ v) (h1 : v ≤ 99999) (hne : ¬ rd μ 8 0 = v) : ∃ μ', fX5_set n 0 v μ = some (rd μ 8 0, μ') := by
  obtain ⟨o, a1, a2, a3, a4, a5⟩ := hH
  obtain ⟨μ1, e1, -⟩ := X_rem a3 a2 a4 a1 (Sim_bool hS) hn
  unfold fX5_set fX2_setting fX2_putSetting
  rw [if_neg (by decide), if_pos (by decide), if_neg (Int32.not_lt.mpr h0), if_pos (by decide), if_pos (show v ≤ tbX1f (0 : Int32).toNatClampNeg from h1), if_pos rfl, bi_some, if_neg (show ¬ rd μ (0 + 8) 0 = v from hne), e1, bv_some, if_pos rfl, bv_some]
  exact ⟨_, rfl⟩
theorem X_set1 {n h : Nat} {μ : hb_m} {σ : Nat → Int32} {G : Nat → Nat → Int32} {v : Int32} (hS : Sim μ 0 σ) (hH : HR μ h G) (hn : 2147483648 ≤ n) (h0 : 0 ≤ v) (h1 : v ≤ 100) (hne : ¬ rd μ 8 1 = v) : ∃ μ', fX5_set n 1 v μ = some (rd μ 8 1, μ') := by
  obtain ⟨o, a1, a2, a3, a4, a5⟩ := hH
  obtain ⟨μ1, e1, -⟩ := X_rem a3 a2 a4 a1 (Sim_bool hS) hn
  unfold fX5_set fX2_setting fX2_putSetting
  rw [if_neg (by decide), if_pos (by decide), if_neg (Int32.not_lt.mpr h0), if_pos (by decide), if_pos (show v ≤ tbX1f (1 : Int32).toNatClampNeg from h1), if_neg (by decide), if_pos rfl, bi_some, if_neg (show ¬ rd μ (0 + 8) 1 = v from hne), e1, bv_some, if_neg (by decide), if_pos rfl, bv_some]
  exact ⟨_, rfl⟩
theorem rg2 {x : Int32} {b : Nat} (h0 : 0 ≤ x) (h1 : x ≤ nI b) (hb : b < 2147483648) : ∃ j, x = nI j ∧ j ≤ b := by
  obtain ⟨j, hj, rfl⟩ := nI_of (Int32.not_lt.mpr h0)
  rw [le_ok hj hb] at h1
  exact ⟨j, rfl, h1⟩
/-- an act that is recorded: the latest state, what was kept -/
theorem push_2 {n h : Nat} {μ μ1 μ' : hb_m} {σ : Nat → Int32} {G : Nat → Nat → Int32} (hS : Sim μ 0 σ) (hH : HR μ h G) (hn : 2147483648 ≤ n) (e : fX1_remember n 0 μ = some μ1) (f : fX μ1 μ') : HR μ' (if h = 4 then 4 else h + 1) (cons1 σ G) ∧ (∀ k i, 38 ≤ k → k < 76 ∨ k = 228 → rd μ' k i = rd μ k i) := by
  obtain ⟨a, c⟩ := HR_push hS hH hn e
  refine ⟨HR_fX a f, fun k i h1 h2 => ?_⟩
  rw [f k i (by omega)]
  exact c k i (by omega) (by omega)
theorem QF_sn {μ μ' : hb_m} (q : QF μ μ') : ∀ k i, 38 ≤ k → k < 76 ∨ k = 228 → rd μ' k i = rd μ k i := fun k i h1 h2 => q.1 k i (by omega)
theorem Sim38 {μ μ' : hb_m} {τ : Nat → Int32} (h : Sim μ 38 τ) (e : ∀ k i, 38 ≤ k → k < 76 ∨ k = 228 → rd μ' k i = rd μ k i) : Sim μ' 38 τ := Sim_fr h (fun k i b1 b2 _ => e k i (by omega) (by omega))
/-- what lies behind the walk back -/
def tail9 (n : Nat) (a : Nat) (v4 : Int32) : Int32 → lm → Option Int32 := fun _ m508 =>
bi (fX5_count n (13 : Int32) m508.1) (fun r561 m561 =>
if 0 < r561 then
(some (1 : Int32))
else
(bi (fX5_undo n m561) (fun r568 m568 =>
if r568 = (-5 : Int32) then
(bi (fX5_restore n m568) (fun r577 m577 =>
if r577 = v4 then
(bl (fL_seen n m577) (fun r586 m586 =>
if ib (nI a) 64 then
if (lg_cmp r586 (m508.2 (nI a).toNatClampNeg)) = 0 then
(bi (fX5_count n (13 : Int32) m586) (fun r599 m599 =>
if r599 = (1 : Int32) then
(some (1 : Int32))
else
(some (0 : Int32))))
else
(some (0 : Int32))
else none))
else
(some (0 : Int32))))
else
(some (0 : Int32)))))
/-- back, state by state; then the snapshot -/
theorem law_back {n a : Nat} {dr : Int32 → Int32} {m : hb_m} {σ : Nat → Int32} {HH : Nat → Nat → Int32} {h0 : Int64} {w : Nat → Int64} (hn : 2147483648 ≤ n) (ha : a ≤ 30) (hS : Sim m 0 σ) (hH : HR m 2 HH) (hD : DG n σ h0) (hwa : w a = h0) (hw : ∀ j, j < a → DG n (HH j) (w (a - 1 - j))) (hs : rd m 228 2 = 1) (hT : Sim m 38 σ) : lL_law_508 n dr (σ 2) (nI a) (tail9 n a (σ 2)) n 0 (m, w) = some 1 := by
  obtain ⟨n2, rfl⟩ : ∃ n2, n = n2 + 3 := ⟨n - 3, by omega⟩
  have c2 : ∀ {m : hb_m} {g : Nat} {G : Nat → Nat → Int32}, HR m g G → rd m 229 2 = nI g := fun h => h.choose_spec.2.2.2.1
  have q2 := c2 hH
  rw [lL_law_508]
  dsimp only
  rw [cn13, bi_some, q2, if_neg (by decide)]
  by_cases a0 : a = 0
  · subst a0
    rw [if_pos (by decide)]
    unfold tail9
    dsimp only
    rw [cn13, bi_some, q2, if_pos (by decide)]
  · have hl0 : ¬ nI a ≤ (0 : Int32) := by rw [li0, le_ok (by omega) (by omega)]; omega
    obtain ⟨m1, e1, p1⟩ := hD m hS
    obtain ⟨m2, e2, s2, h2, f2⟩ := X_undo (g := 1) (HR_fX hH p1.1) hn
    have q3 := c2 h2
    rw [if_neg hl0, if_neg (by decide), e1, bl_some, Int32.sub_zero, ib_ok (show a < 64 by omega) (by omega), if_pos rfl, if_pos (show lg_cmp h0 (w (nI a).toNatClampNeg) = 0 by rw [cl_ok (by omega), hwa]; exact (lg_cmp_eq h0 h0).mpr rfl), e2, bi_some, if_pos (by decide), lL_law_508]
    dsimp only
    rw [cn13, bi_some, q3, if_neg (by decide)]
    by_cases a1 : a = 1
    · subst a1
      rw [if_pos (by decide)]
      unfold tail9
      dsimp only
      rw [cn13, bi_some, q3, if_pos (by decide)]
    · have hl1 : ¬ nI a ≤ (0 : Int32) + 1 := by rw [show (0 : Int32) + 1 = nI 1 from rfl, le_ok (by omega) (by omega)]; omega
      have hD1 := hw 0 (by omega)
      obtain ⟨m3, e3, p3⟩ := hD1 m2 s2
      obtain ⟨m4, e4, s4, h4, f4⟩ := X_undo (g := 0) (HR_fX h2 p3.1) hn
      have q5 := c2 h4
      rw [if_neg hl1, if_neg (by decide), e3, bl_some, show nI a - ((0 : Int32) + 1) = nI (a - 1) from by rw [show (0 : Int32) + 1 = nI 1 from rfl, sub_ok (by omega)], ib_ok (show a - 1 < 64 by omega) (by omega), if_pos rfl, if_pos (show lg_cmp (w (a - 1 - 0)) (w (nI (a - 1)).toNatClampNeg) = 0 by rw [cl_ok (by omega), show a - 1 - 0 = a - 1 by omega]; exact (lg_cmp_eq _ _).mpr rfl), e4, bi_some, if_pos (by decide), lL_law_508]
      dsimp only
      rw [cn13, bi_some, q5, if_pos (by decide)]
      have kp : ∀ k i, 38 ≤ k → k < 76 ∨ k = 228 → rd m4 k i = rd m k i := fun k i k1 k2 => by
        rw [f4 k i k1 (by omega), QF_sn p3 k i k1 k2, f2 k i k1 (by omega), QF_sn p1 k i k1 k2]
      obtain ⟨m5, e5, s5, g5⟩ := X_restore s4 h4 (by rw [kp 228 2 (by omega) (by omega)]; exact hs) (Sim38 hT kp) hn
      obtain ⟨m6, e6, p6⟩ := hD m5 s5
      unfold tail9
      dsimp only
      rw [cn13, bi_some, q5, if_neg (by decide), X_undo0 q5, bi_some, if_pos rfl, e5, bi_some, if_pos rfl, e6, bl_some, ib_ok (show a < 64 by omega) (by omega), if_pos rfl, if_pos (show lg_cmp h0 (w (nI a).toNatClampNeg) = 0 by rw [cl_ok (by omega), hwa]; exact (lg_cmp_eq h0 h0).mpr rfl), cn13, bi_some, p6.1 229 2 (by omega), g5]
      rfl
def jjb (c : Int32) (μ : hb_m) : Bool := (decide (1 ≤ rd μ 0 0) && decide (1 ≤ rd μ 8 2) && decide (rd μ 0 10 = 0)) && (decide (0 ≤ rd μ 8 0) && decide (rd μ 8 0 ≤ c)) && (decide (0 ≤ rd μ 8 1) && decide (rd μ 8 1 ≤ 100)) && (decide (0 ≤ rd μ 0 7) && decide (rd μ 0 7 ≤ 1))
theorem jjb_JJ {c : Nat} {μ : hb_m} (h : jjb (nI c) μ = true) : JJ c μ := by
  unfold jjb at h
  simp only [Bool.and_eq_true, decide_eq_true_eq] at h
  obtain ⟨⟨⟨⟨⟨a, b⟩, d⟩, e⟩, f⟩, g⟩ := h
  exact ⟨⟨a, b, Or.inl d⟩, e, f, g⟩
theorem first_1 : (fX5_addFlat 2147483648 60 mz).map (fun o => o.1) = some 0 := by decide +kernel
theorem first_2 : ((fX5_addFlat 2147483648 60 mz).bind (fun o => fX5_addDevice 2147483648 0 2 o.2)).map (fun o => (o.1, jjb 89 o.2)) = some (0, true) := by decide +kernel
/-- before the loop -/
theorem law_first : ∃ m1 m2, fX5_addFlat 2147483648 60 mz = some (0, m1) ∧ fX5_addDevice 2147483648 0 2 m1 = some (0, m2) ∧ ∀ w, LI 2147483648 0 m2 w := by
  have hn : 2147483648 ≤ 2147483648 := Nat.le_refl _
  have h1 := first_1
  have h2 := first_2
  obtain ⟨r1, m1, ν1, e1, -, R1, c1⟩ := A_addFlat (n := 2147483648) (c := 89) (p := 60) RR_0 hn
  rw [e1] at h1 h2
  obtain rfl : r1 = 0 := by simpa using h1
  obtain ⟨r2, m2, ν2, e2, -, R2_, c2⟩ := A_addDevice (n := 2147483648) (c := 89) (p1 := 0) (p2 := 2) R1 hn
  rw [show (some ((0 : Int32), m1)).bind (fun o => fX5_addDevice 2147483648 0 2 o.2) = fX5_addDevice 2147483648 0 2 m1 from rfl, e2] at h2
  have h3 : r2 = 0 ∧ jjb 89 m2 = true := by simpa using h2
  obtain ⟨rfl, hj⟩ := h3
  have H0 : HR mz 0 (fun _ _ => 0) := ⟨0, by omega, by omega, by rw [mz_at (by omega) (by omega)]; rfl, by rw [mz_at (by omega) (by omega)]; rfl, fun j hj => by omega⟩
  rcases c1 with ⟨q, -⟩ | ⟨-, ⟨μ1, a1, b1⟩, -⟩
  · exact absurd q (by decide)
  rcases c2 with ⟨q, -⟩ | ⟨-, ⟨μ2, a2, b2⟩, -⟩
  · exact absurd q (by decide)
  have H1 := (push_2 RR_0.1 H0 hn a1 b1).1
  have H2 := (push_2 R1.1 H1 hn a2 b2).1
  exact ⟨m1, m2, e1, e2, fun w => ⟨ν2, _, _, R2_, jjb_JJ hj, H2, by decide, fun j hj => by omega⟩⟩
set_option maxHeartbeats 4000000 in
theorem law_1 (dr : Int32 → Int32) : fL_law 2147483648 dr = some 1 := by
  have hn : 2147483648 ≤ 2147483648 := Nat.le_refl _
  unfold fL_law
  obtain ⟨f1, f2, e1, e2, hI0⟩ := law_first
  rw [years_1, bn_some, if_neg (by decide), texts_1, bn_some, if_neg (by decide), e1, bi_some, if_pos rfl, e2, bi_some, if_pos rfl]
  obtain ⟨a, μ, w, ha, ⟨ν, HH, h, hR, hJ, hH, h2, hw⟩, eL⟩ := law_loop (dr := dr) (k := fun x4_52 x3_52 m52 =>
bl (fL_seen 2147483648 m52.1) (fun r428 m428 =>
if ib x3_52 64 then
bi (fX5_count 2147483648 (0 : Int32) m428) (fun r434 m434 =>
bi (fX5_keep 2147483648 m434) (fun r440 m440 =>
if r440 = r434 then
(bi (fX5_count 2147483648 (4 : Int32) m440) (fun r452 m452 =>
bi (fX5_set 2147483648 (0 : Int32) (r452 + (1 : Int32)) m452) (fun r457 m457 =>
if r457 < 0 then
(some (0 : Int32))
else
(bi (fX5_count 2147483648 (5 : Int32) m457) (fun r467 m467 =>
bi (fX5_set 2147483648 (1 : Int32) ((r467 + (1 : Int32)) - (r467 + (1 : Int32)) / (101 : Int32) * (101 : Int32)) m467) (fun r475 m475 =>
if r475 < 0 then
(some (0 : Int32))
else
(bi (fL_refused 2147483648 m475) (fun r482 m482 =>
if r482 = 0 then
(some (0 : Int32))
else
(bi (fX5_undo 2147483648 m482) (fun r489 m489 =>
if r489 < (1 : Int32) then
(some (0 : Int32))
else
(bi (fX5_undo 2147483648 m489) (fun r497 m497 =>
if 0 ≤ r497 then
(lL_law_508 2147483648 dr r434 x3_52 (fun x5_508 m508 =>
bi (fX5_count 2147483648 (13 : Int32) m508.1) (fun r561 m561 =>
if 0 < r561 then
(some (1 : Int32))
else
(bi (fX5_undo 2147483648 m561) (fun r568 m568 =>
if r568 = (-5 : Int32) then
(bi (fX5_restore 2147483648 m568) (fun r577 m577 =>
if r577 = r434 then
(bl (fL_seen 2147483648 m577) (fun r586 m586 =>
if ib x3_52 64 then
if (lg_cmp r586 (m508.2 x3_52.toNatClampNeg)) = 0 then
(bi (fX5_count 2147483648 (13 : Int32) m586) (fun r599 m599 =>
if r599 = (1 : Int32) then
(some (1 : Int32))
else
(some (0 : Int32))))
else
(some (0 : Int32))
else none))
else
(some (0 : Int32))))
else
(some (0 : Int32)))))) 2147483648 (0 : Int32) (m497, (vp_updL m52.2 x3_52.toNatClampNeg r428)))
else
(some (0 : Int32))))))))))))))
else
(some (0 : Int32))))
else none)) hn 2147483648 0 0 f2 (fun _ => 0) (by omega) (by omega) (by omega) (hI0 _)
  refine Eq.trans eL ?_
  dsimp only
  obtain ⟨h0, hD⟩ := DG_ex hn hR.1
  obtain ⟨m, es, q⟩ := hD μ hR.1
  have hRm := RR_QF hR q
  have hJm := JJ_QF hJ q
  have hHm := HR_fX hH q.1
  have hS := hRm.1
  -- kept
  obtain ⟨mk, ek, tk, sk, fk⟩ := X_keep hS hn
  obtain ⟨rk, mk', νk, ek', -, Rk⟩ := O_keep hRm hn
  rw [ek] at ek'
  cases ek'
  have Sk : Sim mk 0 (rd ν 1) := Sim_fr hS (fun k i b1 b2 _ => fk k i (by omega) (by omega))
  have Hk : HR mk h HH := by
    obtain ⟨o, b1, b2, b3, b4, b5⟩ := hHm
    refine ⟨o, b1, b2, (fk _ _ (by omega) (by omega)).trans b3, (fk _ _ (by omega) (by omega)).trans b4, fun j hj => Sim_fr (b5 j hj) (fun k i c1 c2 _ => ?_)⟩
    have hm4 : (o + (h - 1 - j)) % 4 < 4 := Nat.mod_lt _ (by omega)
    exact fk k i (by omega) (by omega)
  have Jk : JJ 89 mk := JJ_eq hJm (fun k i hk => fk k i (by unfold jk at hk; omega) (by unfold jk at hk; omega))
  -- the cost
  obtain ⟨cc, ec, hc⟩ := rg2 Jk.2.1.1 Jk.2.1.2 (by omega)
  have nec : ¬ rd mk 8 0 = rd mk 8 0 + 1 := by rw [ec, li1, nI_add, eq_ok (by omega) (by omega)]; omega
  have pec : 0 ≤ rd mk 8 0 + 1 := by rw [ec, li1, nI_add]; exact nI_pos' (by omega)
  have lec : rd mk 8 0 + 1 ≤ nI 90 := by rw [ec, li1, nI_add, le_ok (by omega) (by omega)]; omega
  obtain ⟨s1, es1⟩ := X_set0 (n := 2147483648) Sk Hk hn pec (Int32.le_trans lec (by decide)) nec
  obtain ⟨r1, s1', ν1, e1', -, R1, c1⟩ := A_set (n := 2147483648) (c := 90) (p1 := 0) (p2 := rd mk 8 0 + 1) Rk hn (JJ_mo Jk (by decide)) (fun _ => lec)
  rw [es1] at e1'
  cases e1'
  rcases c1 with ⟨q', -⟩ | ⟨p1, ⟨x1, a1, b1⟩, j1⟩
  · exact absurd q' (Int32.not_lt.mpr Jk.2.1.1)
  have J1 : JJ 90 s1 := j1 (JJ_mo Jk (by decide))
  obtain ⟨H1, k1⟩ := push_2 Sk Hk hn a1 b1
  -- the base share
  obtain ⟨bb, eb, hb⟩ := rg2 (b := 100) J1.2.2.1.1 J1.2.2.1.2 (by omega)
  have ev : rd s1 8 1 + 1 - (rd s1 8 1 + 1) / 101 * 101 = nI ((bb + 1) % 101) := by
    rw [eb, li1, nI_add, show (101 : Int32) = nI 101 from rfl]
    exact pk_rem (by omega) (by omega) (by omega)
  have hm101 := Nat.mod_lt (bb + 1) (show 101 > 0 by omega)
  have neb : ¬ rd s1 8 1 = nI ((bb + 1) % 101) := by rw [eb, eq_ok (by omega) (by omega)]; omega
  obtain ⟨s2, es2⟩ := X_set1 (n := 2147483648) R1.1 H1 hn (nI_pos' (show (bb + 1) % 101 < 2147483648 by omega)) (show nI ((bb + 1) % 101) ≤ 100 by rw [li100, le_ok (by omega) (by omega)]; omega) neb
  obtain ⟨r2, s2', ν2, e2', -, R2_, c2⟩ := A_set (n := 2147483648) (c := 90) (p1 := 1) (p2 := nI ((bb + 1) % 101)) R1 hn J1 (fun q => absurd q (by decide))
  rw [es2] at e2'
  cases e2'
  rcases c2 with ⟨q', -⟩ | ⟨p2, ⟨x2, a2, b2⟩, j2⟩
  · exact absurd q' (Int32.not_lt.mpr J1.2.2.1.1)
  have J2 : JJ 90 s2 := j2 J1
  obtain ⟨H2, k2⟩ := push_2 R1.1 H1 hn a2 b2
  have e4 : (if (if h = 4 then 4 else h + 1) = 4 then 4 else (if h = 4 then 4 else h + 1) + 1) = 4 := by
    have := hH.choose_spec.1
    split <;> split <;> omega
  rw [e4] at H2
  -- refusals
  obtain ⟨s3, es3, q3⟩ := refused_1 hn R2_.1 J2 (by decide)
  have H3 := HR_fX H2 q3.1
  -- two back
  obtain ⟨s4, es4, S4, H4, k4⟩ := X_undo (g := 3) H3 hn
  obtain ⟨s5, es5, S5, H5, k5⟩ := X_undo (g := 2) H4 hn
  have S5' : Sim s5 0 (rd ν 1) := S5
  have H5' : HR s5 2 HH := HR_le H5 (fun j _ => rfl)
  have kp : ∀ k i, 38 ≤ k → k < 76 ∨ k = 228 → rd s5 k i = rd mk k i := fun k i b1 b2 => by
    rw [k5 k i b1 (by omega), k4 k i b1 (by omega), QF_sn q3 k i b1 b2, k2 k i b1 b2, k1 k i b1 b2]
  have hback := law_back (n := 2147483648) (a := a) (dr := dr) (w := vp_updL w (nI a).toNatClampNeg h0) hn ha S5' H5' hD (by rw [cl_ok (by omega)]; unfold vp_updL; rw [if_pos rfl]) (fun j hj => by
    rw [cl_ok (by omega), show vp_updL w a h0 (a - 1 - j) = w (a - 1 - j) by unfold vp_updL; rw [if_neg (by omega)]]
    exact hw j hj) (by rw [kp 228 2 (by omega) (by omega)]; exact sk) (Sim38 tk kp)
  have eY : rd m 0 10 = rd ν 1 2 := Sim_Y hS
  rw [es, bl_some, ib_ok (show a < 64 by omega) (by omega), if_pos rfl, cn0, bi_some, ek, bi_some, if_pos rfl, cn4, bi_some, es1, bi_some, if_neg (Int32.not_lt.mpr Jk.2.1.1), cn5, bi_some, ev, es2, bi_some, if_neg (Int32.not_lt.mpr J1.2.2.1.1), es3, bi_some, if_neg (by decide), es4, bi_some, if_neg (by decide), es5, bi_some, if_pos (by decide), eY]
  unfold tail9 at hback
  rw [ib_ok (show a < 64 by omega) (by omega)] at hback
  exact hback

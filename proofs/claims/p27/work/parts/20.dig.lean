/-! THE DIGEST: it depends on the house that is now, and on nothing else -/
def R2 (a c μ κ : hb_m) : Prop := ∃ b ν, RQ a b μ ν ∧ RQ c b κ ν
def O2 {α : Type} (a c : hb_m) (x y : Option (α × hb_m)) : Prop := ∃ r μ' κ', x = some (r, μ') ∧ y = some (r, κ') ∧ R2 a c μ' κ'
theorem o2_of {α : Type} {a b c : hb_m} {x1 x2 y : Option (α × hb_m)} (h1 : Oq a b x1 y) (h2 : Oq c b x2 y) : O2 a c x1 x2 := by
  obtain ⟨r, μ', ν', e1, e2, q1⟩ := h1
  obtain ⟨r2, κ', ν2, e3, e4, q2⟩ := h2
  rw [e2] at e4
  cases e4
  exact ⟨r, μ', κ', e1, e3, b, ν', q1, q2⟩
theorem d_flat {n : Nat} {p1 p2 : Int32} {a c μ κ : hb_m} (h : R2 a c μ κ) (hn : 2147483648 ≤ n) : O2 a c (fX5_flat n p1 p2 μ) (fX5_flat n p1 p2 κ) := by
  obtain ⟨b, ν, h1, h2⟩ := h
  exact o2_of (Q_flat h1 hn) (Q_flat h2 hn)
theorem d_device {n : Nat} {p1 p2 : Int32} {a c μ κ : hb_m} (h : R2 a c μ κ) (hn : 2147483648 ≤ n) : O2 a c (fX5_device n p1 p2 μ) (fX5_device n p1 p2 κ) := by
  obtain ⟨b, ν, h1, h2⟩ := h
  exact o2_of (Q_device h1 hn) (Q_device h2 hn)
theorem d_bill {n : Nat} {p1 p2 p3 p4 : Int32} {a c μ κ : hb_m} (h : R2 a c μ κ) : O2 a c (fX5_bill n p1 p2 p3 p4 μ) (fX5_bill n p1 p2 p3 p4 κ) := by
  obtain ⟨b, ν, h1, h2⟩ := h
  exact o2_of (Q_bill h1) (Q_bill h2)
theorem d_units {n : Nat} {p1 p2 : Int32} {a c μ κ : hb_m} (h : R2 a c μ κ) : O2 a c (fX5_units n p1 p2 μ) (fX5_units n p1 p2 κ) := by
  obtain ⟨b, ν, h1, h2⟩ := h
  exact o2_of (Q_units h1) (Q_units h2)
theorem d_count {n i : Nat} {a c μ κ : hb_m} (hi : i < 13) (h : R2 a c μ κ) (hn : 2147483648 ≤ n) : O2 a c (fX5_count n (nI i) μ) (fX5_count n (nI i) κ) := by
  obtain ⟨b, ν, h1, h2⟩ := h
  have w13 : ¬ nI i = nI 13 := by rw [eq_ok (by omega) (by omega)]; omega
  have w14 : ¬ nI i = nI 14 := by rw [eq_ok (by omega) (by omega)]; omega
  exact o2_of (Q_count (fun q => absurd q w13) (fun q => absurd q w14) h1 hn) (Q_count (fun q => absurd q w13) (fun q => absurd q w14) h2 hn)
theorem cn0 {n : Nat} {μ : hb_m} : fX5_count n 0 μ = some (rd μ 0 10, μ) := by unfold fX5_count; rw [if_pos rfl]
theorem cn1 {n : Nat} {μ : hb_m} : fX5_count n 1 μ = some (rd μ 0 0, μ) := by unfold fX5_count; rw [if_neg (by decide), if_pos rfl]
theorem cn2 {n : Nat} {μ : hb_m} : fX5_count n 2 μ = some (rd μ 8 2, μ) := by unfold fX5_count; rw [if_neg (by decide), if_neg (by decide), if_pos rfl]
theorem cn4 {n : Nat} {μ : hb_m} : fX5_count n 4 μ = some (rd μ 8 0, μ) := by
  unfold fX5_count fX2_setting
  rw [if_neg (by decide), if_neg (by decide), if_neg (by decide), if_neg (by decide), if_pos rfl, if_pos (by decide), bi_some]
theorem cn5 {n : Nat} {μ : hb_m} : fX5_count n 5 μ = some (rd μ 8 1, μ) := by
  unfold fX5_count fX2_setting
  rw [if_neg (by decide), if_neg (by decide), if_neg (by decide), if_neg (by decide), if_neg (by decide), if_pos rfl, if_neg (by decide), if_pos (by decide), bi_some]
theorem cn13 {n : Nat} {μ : hb_m} : fX5_count n 13 μ = some (rd μ 229 2, μ) := by
  unfold fX5_count
  rw [if_neg (by decide), if_neg (by decide), if_neg (by decide), if_neg (by decide), if_neg (by decide), if_neg (by decide), if_neg (by decide), if_neg (by decide), if_neg (by decide), if_neg (by decide), if_neg (by decide), if_neg (by decide), if_neg (by decide), if_pos rfl]
theorem R2_at {a c μ κ : hb_m} (h : R2 a c μ κ) {k i : Nat} {v : Int32} (h1 : k < 38) (h2 : k ≠ 11) (ha : rd a k i = v) (hc : rd c k i = v) : rd μ k i = v ∧ rd κ k i = v := by
  obtain ⟨b, ν, q1, q2⟩ := h
  exact ⟨(q1.2.1.2 k i h1 h2).trans ha, (q2.2.1.2 k i h1 h2).trans hc⟩
theorem s6 {n : Nat} {a c : hb_m} {k : Int32 → Int64 → hb_m → Option (Int64 × hb_m)} (hn : 2147483648 ≤ n) (hk : ∀ x3 x1 μ κ, R2 a c μ κ → O2 a c (k x3 x1 μ) (k x3 x1 κ)) : ∀ (f i : Nat) (x1 : Int64) (μ κ : hb_m), i ≤ 13 → 13 < i + f → R2 a c μ κ → O2 a c (lL_seen_6 n k f (nI i) x1 μ) (lL_seen_6 n k f (nI i) x1 κ)
  | 0, i, x1, μ, κ, h1, h2, h => by omega
  | f + 1, i, x1, μ, κ, h1, h2, h => by
    rw [lL_seen_6, lL_seen_6]
    by_cases e : i = 13
    · subst e
      rw [if_pos (by decide), if_pos (by decide)]
      exact hk _ _ _ _ h
    · have hlt : ¬ (13 : Int32) ≤ nI i := by rw [li13, le_ok (by omega) (by omega)]; omega
      rw [if_neg hlt, if_neg hlt]
      obtain ⟨r, μ', κ', e1, e2, h'⟩ := d_count (show i < 13 by omega) h hn
      rw [e1, e2, bi_some, bi_some, li1, nI_add]
      exact s6 hn hk f (i + 1) _ μ' κ' (by omega) (by omega) h'
theorem s33 {n F : Nat} {a c : hb_m} {k : Int32 → Int64 → hb_m → Option (Int64 × hb_m)} (hn : 2147483648 ≤ n) (hF8 : F ≤ 8) (ha : rd a 0 0 = nI F) (hc : rd c 0 0 = nI F) (hk : ∀ x3 x1 μ κ, R2 a c μ κ → O2 a c (k x3 x1 μ) (k x3 x1 κ)) : ∀ (f i : Nat) (x1 : Int64) (μ κ : hb_m), i ≤ 8 * F → 8 * F < i + f → R2 a c μ κ → O2 a c (lL_seen_33 n k f (nI i) x1 μ) (lL_seen_33 n k f (nI i) x1 κ)
  | 0, i, x1, μ, κ, h1, h2, h => by omega
  | f + 1, i, x1, μ, κ, h1, h2, h => by
    obtain ⟨ea, eb⟩ := R2_at h (by omega) (by omega) ha hc
    rw [lL_seen_33, lL_seen_33, cn1, cn1, bi_some, bi_some, ea, eb, show (8 : Int32) * nI F = nI (8 * F) from by rw [li8, pk_mul]]
    by_cases e : i = 8 * F
    · have hle : nI (8 * F) ≤ nI i := by rw [le_ok (by omega) (by omega)]; omega
      rw [if_pos hle, if_pos hle]
      exact hk _ _ _ _ h
    · have hlt : ¬ nI (8 * F) ≤ nI i := by rw [le_ok (by omega) (by omega)]; omega
      rw [if_neg hlt, if_neg hlt]
      obtain ⟨r, μ', κ', e1, e2, h'⟩ := d_flat (p1 := nI i / 8) (p2 := nI i - nI i / 8 * 8) h hn
      rw [e1, e2, bi_some, bi_some, li1, nI_add]
      exact s33 hn hF8 ha hc hk f (i + 1) _ μ' κ' (by omega) (by omega) h'
theorem s73 {n D : Nat} {a c : hb_m} {k : Int32 → Int64 → hb_m → Option (Int64 × hb_m)} (hn : 2147483648 ≤ n) (hD20 : D ≤ 20) (ha : rd a 8 2 = nI D) (hc : rd c 8 2 = nI D) (hk : ∀ x3 x1 μ κ, R2 a c μ κ → O2 a c (k x3 x1 μ) (k x3 x1 κ)) : ∀ (f i : Nat) (x1 : Int64) (μ κ : hb_m), i ≤ 6 * D → 6 * D < i + f → R2 a c μ κ → O2 a c (lL_seen_73 n k f (nI i) x1 μ) (lL_seen_73 n k f (nI i) x1 κ)
  | 0, i, x1, μ, κ, h1, h2, h => by omega
  | f + 1, i, x1, μ, κ, h1, h2, h => by
    obtain ⟨ea, eb⟩ := R2_at h (by omega) (by omega) ha hc
    rw [lL_seen_73, lL_seen_73, cn2, cn2, bi_some, bi_some, ea, eb, show (6 : Int32) * nI D = nI (6 * D) from by rw [li6, pk_mul]]
    by_cases e : i = 6 * D
    · have hle : nI (6 * D) ≤ nI i := by rw [le_ok (by omega) (by omega)]; omega
      rw [if_pos hle, if_pos hle]
      exact hk _ _ _ _ h
    · have hlt : ¬ nI (6 * D) ≤ nI i := by rw [le_ok (by omega) (by omega)]; omega
      rw [if_neg hlt, if_neg hlt]
      obtain ⟨r, μ', κ', e1, e2, h'⟩ := d_device (p1 := nI i / 6) (p2 := nI i - nI i / 6 * 6) h hn
      rw [e1, e2, bi_some, bi_some, li1, nI_add]
      exact s73 hn hD20 ha hc hk f (i + 1) _ μ' κ' (by omega) (by omega) h'
theorem s128 {n : Nat} {a c : hb_m} {v3 : Int32} {k : Int32 → Int64 → hb_m → Option (Int64 × hb_m)} (hk : ∀ x3 x1 μ κ, R2 a c μ κ → O2 a c (k x3 x1 μ) (k x3 x1 κ)) : ∀ (f i : Nat) (x1 : Int64) (μ κ : hb_m), i ≤ 4 → 4 < i + f → R2 a c μ κ → O2 a c (lL_seen_128 n v3 k f (nI i) x1 μ) (lL_seen_128 n v3 k f (nI i) x1 κ)
  | 0, i, x1, μ, κ, h1, h2, h => by omega
  | f + 1, i, x1, μ, κ, h1, h2, h => by
    rw [lL_seen_128, lL_seen_128]
    by_cases e : i = 4
    · subst e
      rw [if_pos (by decide), if_pos (by decide)]
      exact hk _ _ _ _ h
    · have hlt : ¬ (4 : Int32) ≤ nI i := by rw [li4, le_ok (by omega) (by omega)]; omega
      rw [if_neg hlt, if_neg hlt]
      have go : ∀ p3 p4 : Int32, O2 a c (bi (fX5_bill n (v3 / (8 : Int32)) (v3 - v3 / (8 : Int32) * (8 : Int32)) p3 p4 μ) (fun r172 m172 => lL_seen_128 n v3 k f (nI i + (1 : Int32)) (((31 : Int64) * x1) + r172.toInt64) m172)) (bi (fX5_bill n (v3 / (8 : Int32)) (v3 - v3 / (8 : Int32) * (8 : Int32)) p3 p4 κ) (fun r172 m172 => lL_seen_128 n v3 k f (nI i + (1 : Int32)) (((31 : Int64) * x1) + r172.toInt64) m172)) := by
        intro p3 p4
        obtain ⟨r, μ', κ', e1, e2, h'⟩ := d_bill (n := n) (p1 := v3 / 8) (p2 := v3 - v3 / 8 * 8) (p3 := p3) (p4 := p4) h
        rw [e1, e2, bi_some, bi_some, li1, nI_add]
        exact s128 hk f (i + 1) _ μ' κ' (by omega) (by omega) h'
      by_cases c1 : nI i - nI i / (2 : Int32) * (2 : Int32) = (1 : Int32)
      · rw [if_pos c1, if_pos c1]
        by_cases c2 : nI i ≤ (1 : Int32)
        · rw [if_pos c2, if_pos c2]; exact go 1 0
        · rw [if_neg c2, if_neg c2]; exact go 1 1
      · rw [if_neg c1, if_neg c1]
        by_cases c2 : nI i ≤ (1 : Int32)
        · rw [if_pos c2, if_pos c2]; exact go 0 0
        · rw [if_neg c2, if_neg c2]; exact go 0 1
theorem s113 {n Y : Nat} {a c : hb_m} {k : Int32 → Int64 → hb_m → Option (Int64 × hb_m)} (hn : 2147483648 ≤ n) (hY4 : Y ≤ 4) (ha : rd a 0 10 = nI Y) (hc : rd c 0 10 = nI Y) (hk : ∀ x3 x1 μ κ, R2 a c μ κ → O2 a c (k x3 x1 μ) (k x3 x1 κ)) : ∀ (f i : Nat) (x1 : Int64) (μ κ : hb_m), i ≤ 8 * Y → 8 * Y < i + f → R2 a c μ κ → O2 a c (lL_seen_113 n k f (nI i) x1 μ) (lL_seen_113 n k f (nI i) x1 κ)
  | 0, i, x1, μ, κ, h1, h2, h => by omega
  | f + 1, i, x1, μ, κ, h1, h2, h => by
    obtain ⟨ea, eb⟩ := R2_at h (by omega) (by omega) ha hc
    rw [lL_seen_113, lL_seen_113, cn0, cn0, bi_some, bi_some, ea, eb, show (8 : Int32) * nI Y = nI (8 * Y) from by rw [li8, pk_mul]]
    by_cases e : i = 8 * Y
    · have hle : nI (8 * Y) ≤ nI i := by rw [le_ok (by omega) (by omega)]; omega
      rw [if_pos hle, if_pos hle]
      exact hk _ _ _ _ h
    · have hlt : ¬ nI (8 * Y) ≤ nI i := by rw [le_ok (by omega) (by omega)]; omega
      rw [if_neg hlt, if_neg hlt]
      refine s128 (fun x4 y1 μ' κ' h' => ?_) n 0 x1 μ κ (by omega) (by omega) h
      rw [li1, nI_add]
      exact s113 hn hY4 ha hc hk f (i + 1) _ μ' κ' (by omega) (by omega) h'
theorem s192 {n Y : Nat} {a c : hb_m} {k : Int32 → Int64 → hb_m → Option (Int64 × hb_m)} (hn : 2147483648 ≤ n) (hY4 : Y ≤ 4) (ha : rd a 0 10 = nI Y) (hc : rd c 0 10 = nI Y) (hk : ∀ x3 x1 μ κ, R2 a c μ κ → O2 a c (k x3 x1 μ) (k x3 x1 κ)) : ∀ (f i : Nat) (x1 : Int64) (μ κ : hb_m), i ≤ 20 * Y → 20 * Y < i + f → R2 a c μ κ → O2 a c (lL_seen_192 n k f (nI i) x1 μ) (lL_seen_192 n k f (nI i) x1 κ)
  | 0, i, x1, μ, κ, h1, h2, h => by omega
  | f + 1, i, x1, μ, κ, h1, h2, h => by
    obtain ⟨ea, eb⟩ := R2_at h (by omega) (by omega) ha hc
    rw [lL_seen_192, lL_seen_192, cn0, cn0, bi_some, bi_some, ea, eb, show (20 : Int32) * nI Y = nI (20 * Y) from by rw [li20, pk_mul]]
    by_cases e : i = 20 * Y
    · have hle : nI (20 * Y) ≤ nI i := by rw [le_ok (by omega) (by omega)]; omega
      rw [if_pos hle, if_pos hle]
      exact hk _ _ _ _ h
    · have hlt : ¬ nI (20 * Y) ≤ nI i := by rw [le_ok (by omega) (by omega)]; omega
      rw [if_neg hlt, if_neg hlt]
      obtain ⟨r, μ', κ', e1, e2, h'⟩ := d_units (n := n) (p1 := nI i / 20) (p2 := nI i - nI i / 20 * 20) h
      rw [e1, e2, bi_some, bi_some, li1, nI_add]
      exact s192 hn hY4 ha hc hk f (i + 1) _ μ' κ' (by omega) (by omega) h'
theorem seen2 {n : Nat} {a c ν : hb_m} (hn : 2147483648 ≤ n) (h1 : Sim a 0 (rd ν 1)) (h2 : Sim c 0 (rd ν 1)) : O2 a c (fL_seen n a) (fL_seen n c) := by
  obtain ⟨F, D, Y, hi, hr⟩ := id h1
  obtain ⟨F', D', Y', hi', hr'⟩ := id h2
  obtain ⟨hF8, hD20, hY4⟩ := hi.1
  obtain ⟨hF8', hD20', hY4'⟩ := hi'.1
  obtain rfl : F' = F := by
    have := hi'.2.1.1.symm.trans hi.2.1.1
    rw [eq_ok (by omega) (by omega)] at this
    exact this
  obtain rfl : D' = D := by
    have := hi'.2.1.2.1.symm.trans hi.2.1.2.1
    rw [eq_ok (by omega) (by omega)] at this
    exact this
  obtain rfl : Y' = Y := by
    have := hi'.2.1.2.2.symm.trans hi.2.1.2.2
    rw [eq_ok (by omega) (by omega)] at this
    exact this
  have a0 : rd a 0 0 = nI F' := hr.1.1
  have c0 : rd c 0 0 = nI F' := hr'.1.1
  have a2 : rd a 8 2 = nI D' := hr.2.1.2.2
  have c2 : rd c 8 2 = nI D' := hr'.2.1.2.2
  have a1 : rd a 0 10 = nI Y' := hr.1.2.2.2
  have c1 : rd c 0 10 = nI Y' := hr'.1.2.2.2
  unfold fL_seen
  refine s6 hn (fun _ x1 μ κ h => ?_) n 0 7 a c (by omega) (by omega) ⟨ν, ν, RQ_rf h1, RQ_rf h2⟩
  refine s33 hn hF8 a0 c0 (fun _ x1 μ κ h => ?_) n 0 x1 μ κ (by omega) (by omega) h
  refine s73 hn hD20 a2 c2 (fun _ x1 μ κ h => ?_) n 0 x1 μ κ (by omega) (by omega) h
  refine s113 hn hY4 a1 c1 (fun _ x1 μ κ h => ?_) n 0 x1 μ κ (by omega) (by omega) h
  refine s192 hn hY4 a1 c1 (fun _ x1 μ κ h => ?_) n 0 x1 μ κ (by omega) (by omega) h
  exact ⟨x1, μ, κ, rfl, rfl, h⟩
/-- h is the digest of the house that σ tells -/
def DG (n : Nat) (σ : Nat → Int32) (h : Int64) : Prop := ∀ μ, Sim μ 0 σ → ∃ μ', fL_seen n μ = some (h, μ') ∧ QF μ μ'
theorem DG_ex {n : Nat} {ν a : hb_m} (hn : 2147483648 ≤ n) (h1 : Sim a 0 (rd ν 1)) : ∃ h, DG n (rd ν 1) h := by
  obtain ⟨h, μ', κ', e1, -, -⟩ := seen2 hn h1 h1
  refine ⟨h, fun μ hμ => ?_⟩
  obtain ⟨h', m1, m2, e3, e4, b2, ν2, q3, q4⟩ := seen2 hn h1 hμ
  rw [e1] at e3
  cases e3
  exact ⟨m2, e4, q4.2.1⟩
theorem Sim_QF {μ μ' : hb_m} {σ : Nat → Int32} (h : Sim μ 0 σ) (q : QF μ μ') : Sim μ' 0 σ := Sim_fr h (fun k i _ b2 b3 => q.2 k i (by omega) (by omega))

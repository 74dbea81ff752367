/-! PURE TOOLS: literals, reads over writes, loops -/
theorem li0 : (0 : Int32) = nI 0 := rfl
theorem li1 : (1 : Int32) = nI 1 := rfl
theorem li2 : (2 : Int32) = nI 2 := rfl
theorem li3 : (3 : Int32) = nI 3 := rfl
theorem li4 : (4 : Int32) = nI 4 := rfl
theorem li5 : (5 : Int32) = nI 5 := rfl
theorem li6 : (6 : Int32) = nI 6 := rfl
theorem li7 : (7 : Int32) = nI 7 := rfl
theorem li8 : (8 : Int32) = nI 8 := rfl
theorem li10 : (10 : Int32) = nI 10 := rfl
theorem li11 : (11 : Int32) = nI 11 := rfl
theorem li12 : (12 : Int32) = nI 12 := rfl
theorem li15 : (15 : Int32) = nI 15 := rfl
theorem li16 : (16 : Int32) = nI 16 := rfl
theorem li19 : (19 : Int32) = nI 19 := rfl
theorem li20 : (20 : Int32) = nI 20 := rfl
theorem li23 : (23 : Int32) = nI 23 := rfl
theorem li24 : (24 : Int32) = nI 24 := rfl
theorem li31 : (31 : Int32) = nI 31 := rfl
theorem li39 : (39 : Int32) = nI 39 := rfl
theorem li40 : (40 : Int32) = nI 40 := rfl
theorem li55 : (55 : Int32) = nI 55 := rfl
theorem li60 : (60 : Int32) = nI 60 := rfl
theorem li64 : (64 : Int32) = nI 64 := rfl
theorem li71 : (71 : Int32) = nI 71 := rfl
theorem li100 : (100 : Int32) = nI 100 := rfl
theorem li131 : (131 : Int32) = nI 131 := rfl
theorem li200 : (200 : Int32) = nI 200 := rfl
theorem li415 : (415 : Int32) = nI 415 := rfl
theorem li1000 : (1000 : Int32) = nI 1000 := rfl
theorem li1245 : (1245 : Int32) = nI 1245 := rfl
theorem li1660 : (1660 : Int32) = nI 1660 := rfl
theorem li9999 : (9999 : Int32) = nI 9999 := rfl
theorem li99999 : (99999 : Int32) = nI 99999 := rfl
theorem li199980 : (199980 : Int32) = nI 199980 := rfl
theorem li1000000 : (1000000 : Int32) = nI 1000000 := rfl
theorem li48 : (48 : Int32) = nI 48 := rfl
theorem li57 : (57 : Int32) = nI 57 := rfl
theorem li59 : (59 : Int32) = nI 59 := rfl
theorem li61 : (61 : Int32) = nI 61 := rfl
theorem li63 : (63 : Int32) = nI 63 := rfl
theorem li13 : (13 : Int32) = nI 13 := rfl
theorem li14 : (14 : Int32) = nI 14 := rfl
theorem li30 : (30 : Int32) = nI 30 := rfl
theorem li80 : (80 : Int32) = nI 80 := rfl
theorem li120 : (120 : Int32) = nI 120 := rfl
theorem li130 : (130 : Int32) = nI 130 := rfl
theorem li150 : (150 : Int32) = nI 150 := rfl
theorem li160 : (160 : Int32) = nI 160 := rfl
theorem li170 : (170 : Int32) = nI 170 := rfl
theorem ib_ok {a n : Nat} (h : a < n) (hn : n < 2147483648) : ib (nI a) n = true := by
  simp only [ib, Bool.and_eq_true, decide_eq_true_eq]
  exact ⟨nI_pos' (by omega), by rw [nI_clamp (by omega)]; exact h⟩
theorem cl_ok {a : Nat} (h : a < 2147483648) : (nI a).toNatClampNeg = a := nI_clamp h
theorem le_ok {a b : Nat} (ha : a < 2147483648) (hb : b < 2147483648) : (nI a ≤ nI b) = (a ≤ b) := propext (nI_leI ha hb)
theorem lt_ok {a b : Nat} (ha : a < 2147483648) (hb : b < 2147483648) : (nI a < nI b) = (a < b) := propext (nI_ltI ha hb)
theorem eq_ok {a b : Nat} (ha : a < 2147483648) (hb : b < 2147483648) : (nI a = nI b) = (a = b) := propext (nI_eq ha hb)
theorem sub_ok {a b : Nat} (h : b ≤ a) : nI a - nI b = nI (a - b) := pk_sub h
theorem div_ok {a d : Nat} (ha : a < 2147483648) (h0 : 0 < d) (hd : d < 2147483648) : nI a / nI d = nI (a / d) := pk_div ha h0 hd
theorem neg_lt {b : Nat} (hb : b < 2147483648) : ((-5 : Int32) < nI b) = True := by
  apply propext
  refine ⟨fun _ => trivial, fun _ => Int32.lt_iff_toInt_lt.mpr ?_⟩
  rw [nI_toInt (by omega)]
  have : (-5 : Int32).toInt = -5 := by decide
  omega
theorem neg_ne {b : Nat} (hb : b < 2147483648) : (nI b = (-5 : Int32)) = False := by
  apply propext
  refine ⟨fun h => ?_, fun h => h.elim⟩
  have h1 : (nI b).toInt = (-5 : Int32).toInt := by rw [h]
  rw [nI_toInt (by omega)] at h1
  have : (-5 : Int32).toInt = -5 := by decide
  omega
/-- a loop that counts up -/
theorem lo {S R : Type} (L : Nat → Nat → S → R) (D : Nat) (K : S → R) (I : Nat → S → Prop) (hx : ∀ f s, I D s → L (f + 1) D s = K s) (hs : ∀ f i s, i < D → I i s → ∃ s', I (i + 1) s' ∧ L (f + 1) i s = L f (i + 1) s') : ∀ f i s, i ≤ D → D < i + f → I i s → ∃ s', I D s' ∧ L f i s = K s' := by
  intro f
  induction f with
  | zero => intro i s h1 h2; omega
  | succ f ih =>
    intro i s h1 h2 h3
    by_cases h : i = D
    · subst h
      exact ⟨s, h3, hx f s h3⟩
    · obtain ⟨s1, h4, h5⟩ := hs f i s (by omega) h3
      obtain ⟨s2, h6, h7⟩ := ih (i + 1) s1 (by omega) (by omega) h4
      exact ⟨s2, h6, h5.trans h7⟩
/-- as before, but for the cells of S -/
def sx (S : List Nat) (μ μ' : hb_m) : Prop := ∀ k, k ∉ S → (∀ i, rd μ' k i = rd μ k i) ∧ ∀ i, rL μ' k i = rL μ k i
theorem sx_rf {S : List Nat} {μ : hb_m} : sx S μ μ := fun _ _ => ⟨fun _ => rfl, fun _ => rfl⟩
theorem sx_tr {S : List Nat} {μ μ1 μ2 : hb_m} (h : sx S μ μ1) (h1 : sx S μ1 μ2) : sx S μ μ2 := fun k hk => ⟨fun i => ((h1 k hk).1 i).trans ((h k hk).1 i), fun i => ((h1 k hk).2 i).trans ((h k hk).2 i)⟩
theorem sx_mo {S T : List Nat} {μ μ1 : hb_m} (h : sx S μ μ1) (hs : ∀ k ∈ S, k ∈ T) : sx T μ μ1 := fun k hk => h k (fun q => hk (hs k q))
theorem sx_wr {S : List Nat} {μ : hb_m} {k i : Nat} {v : Int32} (h : k ∈ S) : sx S μ (wr μ k i v) := fun j hj => ⟨fun i' => by rw [rd_wr, if_neg (fun q : j = k ∧ i' = i => hj (q.1 ▸ h))], fun _ => rL_wr _ _ _ _ _ _⟩
theorem sx_wL {S : List Nat} {μ : hb_m} {k i : Nat} {v : Int64} (h : k ∈ S) : sx S μ (wL μ k i v) := fun j hj => ⟨fun _ => rfl, fun i' => by rw [rL_wL, if_neg (fun q : j = k ∧ i' = i => hj (q.1 ▸ h))]⟩
theorem sx_cp {S : List Nat} {μ : hb_m} {a k n : Nat} (h : k ∈ S) : sx S μ (cpA μ a k n) := fun j hj => ⟨fun i' => by rw [rd_cpA, if_neg (fun q : j = k ∧ i' < n => hj (q.1 ▸ h))], fun _ => rL_cpA _ _ _ _ _ _⟩
/-- sums -/
def sI (f : Nat → Int32) : Nat → Int32
  | 0 => 0
  | n + 1 => sI f n + f n
def sN (f : Nat → Nat) : Nat → Nat
  | 0 => 0
  | n + 1 => sN f n + f n
theorem sI_co {f g : Nat → Int32} : ∀ n, (∀ i, i < n → f i = g i) → sI f n = sI g n
  | 0, _ => rfl
  | n + 1, h => by simp only [sI]; rw [sI_co n (fun i hi => h i (by omega)), h n (by omega)]
theorem sI_nI {f : Nat → Int32} {g : Nat → Nat} : ∀ n, (∀ i, i < n → f i = nI (g i)) → sI f n = nI (sN g n)
  | 0, _ => rfl
  | n + 1, h => by simp only [sI, sN]; rw [sI_nI n (fun i hi => h i (by omega)), h n (by omega), nI_add]
theorem sN_le {g : Nat → Nat} {m : Nat} : ∀ n, (∀ i, i < n → g i ≤ m) → sN g n ≤ n * m
  | 0, _ => by simp [sN]
  | n + 1, h => by
    have h1 := sN_le (g := g) (m := m) n (fun i hi => h i (by omega))
    have h2 := h n (by omega)
    simp only [sN]
    rw [Nat.succ_mul]
    omega
theorem sN_pos {g : Nat → Nat} : ∀ n i, i < n → 0 < g i → 0 < sN g n
  | 0, i, h, _ => by omega
  | n + 1, i, h, hg => by
    simp only [sN]
    by_cases e : i = n
    · subst e; omega
    · have := sN_pos (g := g) n i (by omega) hg
      omega

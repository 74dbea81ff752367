/-! THE MEMORY: ints as digits of one number (rows of 64), what lies beyond as functions; longs as functions -/
def dg (A p : Nat) : Nat := Nat.mod (Nat.shiftRight A (32 * p)) 4294967296
def sdg (A p d : Nat) : Nat := Nat.xor A (Nat.shiftLeft (Nat.xor (dg A p) d) (32 * p))
theorem dg_bit (A p i : Nat) : (dg A p).testBit i = (decide (i < 32) && A.testBit (32 * p + i)) := by
  show ((A >>> (32 * p)) % 2 ^ 32).testBit i = _
  rw [Nat.testBit_mod_two_pow, Nat.testBit_shiftRight]
theorem dg_lt (A p : Nat) : dg A p < 4294967296 := Nat.mod_lt _ (by decide)
theorem big_bit {d i : Nat} (hd : d < 4294967296) (hi : ¬ i < 32) : d.testBit i = false := by
  apply Nat.testBit_lt_two_pow
  exact Nat.lt_of_lt_of_le hd (Nat.pow_le_pow_right (n := 2) (by decide) (show 32 ≤ i by omega))
theorem sdg_bit (A p d j : Nat) : (sdg A p d).testBit j = Bool.xor (A.testBit j) (decide (j ≥ 32 * p) && Bool.xor ((dg A p).testBit (j - 32 * p)) (d.testBit (j - 32 * p))) := by
  show (A ^^^ ((dg A p ^^^ d) <<< (32 * p))).testBit j = _
  rw [Nat.testBit_xor, Nat.testBit_shiftLeft, Nat.testBit_xor]
theorem dg_sdg (A p d q : Nat) (hd : d < 4294967296) : dg (sdg A p d) q = if q = p then d else dg A q := by
  apply Nat.eq_of_testBit_eq
  intro i
  rw [dg_bit, sdg_bit]
  by_cases h : q = p
  · subst h
    rw [if_pos rfl, show 32 * q + i - 32 * q = i by omega, show decide (32 * q + i ≥ 32 * q) = true by simp, dg_bit]
    by_cases hi : i < 32
    · rw [show decide (i < 32) = true by simpa using hi]
      cases A.testBit (32 * q + i) <;> cases d.testBit i <;> rfl
    · rw [show decide (i < 32) = false by simpa using hi, big_bit hd hi]
      rfl
  · rw [if_neg h, dg_bit A q i]
    by_cases hi : i < 32
    · rw [show decide (i < 32) = true by simpa using hi]
      by_cases hq : q < p
      · rw [show decide (32 * q + i ≥ 32 * p) = false by simp; omega]
        simp
      · rw [big_bit (dg_lt A p) (by omega), big_bit hd (by omega)]
        simp
    · rw [show decide (i < 32) = false by simpa using hi]
      rfl
abbrev hb_g : Type := Nat × Nat × Nat × Nat × Nat × Nat × Nat
def gc (t : hb_g) (j : Nat) : Nat := match j with
  | 0 => t.1
  | 1 => t.2.1
  | 2 => t.2.2.1
  | 3 => t.2.2.2.1
  | 4 => t.2.2.2.2.1
  | 5 => t.2.2.2.2.2.1
  | _ => t.2.2.2.2.2.2
def gs (t : hb_g) (j v : Nat) : hb_g := match j with
  | 0 => (v, t.2)
  | 1 => (t.1, v, t.2.2)
  | 2 => (t.1, t.2.1, v, t.2.2.2)
  | 3 => (t.1, t.2.1, t.2.2.1, v, t.2.2.2.2)
  | 4 => (t.1, t.2.1, t.2.2.1, t.2.2.2.1, v, t.2.2.2.2.2)
  | 5 => (t.1, t.2.1, t.2.2.1, t.2.2.2.1, t.2.2.2.2.1, v, t.2.2.2.2.2.2)
  | _ => (t.1, t.2.1, t.2.2.1, t.2.2.2.1, t.2.2.2.2.1, t.2.2.2.2.2.1, v)
theorem gc_gs (t : hb_g) {j j' : Nat} (v : Nat) (h : j < 7) (h' : j' < 7) : gc (gs t j v) j' = if j' = j then v else gc t j' := by
  rcases (show j = 0 ∨ j = 1 ∨ j = 2 ∨ j = 3 ∨ j = 4 ∨ j = 5 ∨ j = 6 by omega) with rfl | rfl | rfl | rfl | rfl | rfl | rfl <;> rcases (show j' = 0 ∨ j' = 1 ∨ j' = 2 ∨ j' = 3 ∨ j' = 4 ∨ j' = 5 ∨ j' = 6 by omega) with rfl | rfl | rfl | rfl | rfl | rfl | rfl <;> rfl
/-- which number (one a house, one for the rest), and which digit of it -/
def cj (k : Nat) : Nat := if k < 228 then k / 38 else 6
def ca (k i : Nat) : Nat := if k < 228 then 20 * (k % 38) + i else 64 * (k - 228) + i
def co (k i : Nat) : Bool := if k < 228 then Nat.blt i 20 else Nat.blt i 64
theorem cj_lt (k : Nat) : cj k < 7 := by unfold cj; split <;> omega
theorem blt_iff {a b : Nat} : Nat.blt a b = true ↔ a < b := by
  show Nat.ble (a + 1) b = true ↔ a < b
  rw [Nat.ble_eq]
  exact Iff.rfl
theorem c_inj {k i k' i' : Nat} (h : co k i = true) (h' : co k' i' = true) (e1 : cj k' = cj k) (e2 : ca k' i' = ca k i) : k' = k ∧ i' = i := by
  unfold co at h h'
  unfold cj at e1
  unfold ca at e2
  by_cases a : k < 228 <;> by_cases b : k' < 228
  · rw [if_pos a] at h e1 e2
    rw [if_pos b] at h' e1 e2
    rw [blt_iff] at h h'
    omega
  · rw [if_pos a] at e1
    rw [if_neg b] at e1
    omega
  · rw [if_neg a] at e1
    rw [if_pos b] at e1
    omega
  · rw [if_neg a] at h e1 e2
    rw [if_neg b] at h' e1 e2
    rw [blt_iff] at h h'
    omega
abbrev hb_m : Type := hb_g × (Nat → Nat → Int32) × (Nat → Nat → Int64)
def rd (μ : hb_m) (k i : Nat) : Int32 := if co k i = true then Int32.ofBitVec (BitVec.ofNat 32 (dg (gc μ.1 (cj k)) (ca k i))) else μ.2.1 k i
def rL (μ : hb_m) (k i : Nat) : Int64 := μ.2.2 k i
def wr (μ : hb_m) (k i : Nat) (v : Int32) : hb_m := if co k i = true then (gs μ.1 (cj k) (sdg (gc μ.1 (cj k)) (ca k i) v.toBitVec.toNat), μ.2) else (μ.1, (fun k' i' => if k' = k ∧ i' = i then v else μ.2.1 k' i'), μ.2.2)
def wL (μ : hb_m) (k i : Nat) (v : Int64) : hb_m := (μ.1, μ.2.1, fun j => if j = k then vp_updL (μ.2.2 k) i v else μ.2.2 j)
def cpA (μ : hb_m) (a b : Nat) : Nat → hb_m
  | 0 => μ
  | n + 1 => wr (cpA μ a b n) b n (rd μ a n)
theorem rd_wr (μ : hb_m) (k i : Nat) (v : Int32) (k' i' : Nat) : rd (wr μ k i v) k' i' = if k' = k ∧ i' = i then v else rd μ k' i' := by
  unfold wr
  by_cases hi : co k i = true
  · rw [if_pos hi]
    unfold rd
    by_cases hi' : co k' i' = true
    · rw [if_pos hi', if_pos hi']
      show Int32.ofBitVec (BitVec.ofNat 32 (dg (gc (gs μ.1 (cj k) (sdg (gc μ.1 (cj k)) (ca k i) v.toBitVec.toNat)) (cj k')) (ca k' i'))) = _
      rw [gc_gs _ _ (cj_lt k) (cj_lt k')]
      by_cases hj : cj k' = cj k
      · rw [if_pos hj, dg_sdg _ _ _ _ v.toBitVec.isLt]
        by_cases h : k' = k ∧ i' = i
        · rw [if_pos h, if_pos (show ca k' i' = ca k i by rw [h.1, h.2]), BitVec.ofNat_toNat, BitVec.setWidth_eq]; rfl
        · rw [if_neg h, if_neg (fun q => h (c_inj hi hi' hj q)), hj]
      · rw [if_neg hj, if_neg (fun q => hj (by rw [q.1]))]
    · rw [if_neg hi', if_neg hi', if_neg (fun q => hi' (by rw [q.1, q.2]; exact hi))]
  · rw [if_neg hi]
    unfold rd
    by_cases hi' : co k' i' = true
    · rw [if_pos hi', if_pos hi', if_neg (fun q => hi (by rw [← q.1, ← q.2]; exact hi'))]
    · rw [if_neg hi', if_neg hi']
theorem rL_wr (μ : hb_m) (k i : Nat) (v : Int32) (k' i' : Nat) : rL (wr μ k i v) k' i' = rL μ k' i' := by
  unfold wr
  by_cases hi : co k i = true
  · rw [if_pos hi]; rfl
  · rw [if_neg hi]; rfl
theorem rd_wL (μ : hb_m) (k i : Nat) (v : Int64) (k' i' : Nat) : rd (wL μ k i v) k' i' = rd μ k' i' := rfl
theorem rL_wL (μ : hb_m) (k i : Nat) (v : Int64) (k' i' : Nat) : rL (wL μ k i v) k' i' = if k' = k ∧ i' = i then v else rL μ k' i' := by
  unfold rL wL vp_updL
  by_cases h : k' = k <;> by_cases h2 : i' = i <;> simp [h, h2]
theorem rd_cpA (μ : hb_m) (a b n k i : Nat) : rd (cpA μ a b n) k i = if k = b ∧ i < n then rd μ a i else rd μ k i := by
  induction n with
  | zero => rw [if_neg (by omega)]; rfl
  | succ n ih =>
    show rd (wr (cpA μ a b n) b n (rd μ a n)) k i = _
    rw [rd_wr, ih]
    by_cases h : k = b ∧ i = n
    · rw [if_pos h, if_pos (by omega), h.2]
    · rw [if_neg h]
      by_cases h2 : k = b ∧ i < n
      · rw [if_pos h2, if_pos (by omega)]
      · rw [if_neg h2, if_neg (by omega)]
theorem rL_cpA (μ : hb_m) (a b n k i : Nat) : rL (cpA μ a b n) k i = rL μ k i := by
  induction n with
  | zero => rfl
  | succ n ih =>
    show rL (wr (cpA μ a b n) b n (rd μ a n)) k i = _
    rw [rL_wr, ih]
theorem rdf_wr {μ : hb_m} {k i : Nat} {v : Int32} : rd (wr μ k i v) k = upd (rd μ k) i v := by
  funext j
  rw [rd_wr]
  unfold upd
  by_cases h : j = i
  · rw [if_pos ⟨rfl, h⟩, if_pos h]
  · rw [if_neg (fun q => h q.2), if_neg h]
theorem rdf_wn {μ : hb_m} {k i j : Nat} {v : Int32} (h : j ≠ k) : rd (wr μ k i v) j = rd μ j := by
  funext i'
  rw [rd_wr, if_neg (fun q => h q.1)]
theorem rLf_wr {μ : hb_m} {k i : Nat} {v : Int32} : rL (wr μ k i v) = rL μ := by
  funext k' i'
  exact rL_wr μ k i v k' i'
theorem rdf_cp {μ : hb_m} {a b n : Nat} : rd (cpA μ a b n) b = va_cpy (rd μ a) (rd μ b) 0 0 n := by
  funext j
  rw [rd_cpA]
  unfold va_cpy
  by_cases h : j < n
  · rw [if_pos ⟨rfl, h⟩]; simp [h]
  · rw [if_neg (fun q => h q.2)]; simp [h]
theorem rdf_cn {μ : hb_m} {a b n j : Nat} (h : j ≠ b) : rd (cpA μ a b n) j = rd μ j := by
  funext i'
  rw [rd_cpA, if_neg (fun q => h q.1)]
theorem rLf_cp {μ : hb_m} {a b n : Nat} : rL (cpA μ a b n) = rL μ := by
  funext k' i'
  exact rL_cpA μ a b n k' i'
theorem rdf_wL {μ : hb_m} {k i : Nat} {v : Int64} : rd (wL μ k i v) = rd μ := rfl
theorem rLf_wL {μ : hb_m} {k i : Nat} {v : Int64} : rL (wL μ k i v) k = vp_updL (rL μ k) i v := by
  funext j
  rw [rL_wL]
  unfold vp_updL
  by_cases h : j = i
  · rw [if_pos ⟨rfl, h⟩, if_pos h]
  · rw [if_neg (fun q => h q.2), if_neg h]
theorem rLf_wn {μ : hb_m} {k i j : Nat} {v : Int64} (h : j ≠ k) : rL (wL μ k i v) j = rL μ j := by
  funext i'
  rw [rL_wL, if_neg (fun q => h q.1)]
def m0 : hb_m := ((0, 0, 0, 0, 0, 0, 0), fun _ _ => 0, fun _ _ => 0)
theorem gc_0 (j : Nat) : gc (0, 0, 0, 0, 0, 0, 0) j = 0 := by
  unfold gc
  split <;> rfl
theorem rd_m0 (k i : Nat) : rd m0 k i = 0 := by
  unfold rd m0
  by_cases h : co k i = true
  · rw [if_pos h]
    show Int32.ofBitVec (BitVec.ofNat 32 (dg (gc (0, 0, 0, 0, 0, 0, 0) (cj k)) (ca k i))) = 0
    rw [gc_0]
    have h1 : dg 0 (ca k i) = 0 := by
      show ((0 : Nat) >>> _) % 4294967296 = 0
      rw [Nat.zero_shiftRight]
    rw [h1]
    rfl
  · rw [if_neg h]

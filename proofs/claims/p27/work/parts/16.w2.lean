/-! THE START: the memory of a new object, its world, and the relation -/
def iv (k i : Nat) : Int32 := if 228 ≤ k then 0 else if k % 38 < 8 then 0 else if (k % 38 - 8) % 6 = 0 then (if i = 1 then 40 else 0) else if (k % 38 - 8) % 6 ≤ 2 then (if i < 8 then -5 else 0) else 0
def mzy (μ : hb_m) (c : Nat) : hb_m := (List.range 8).foldl (fun m i => wr (wr m (c + 1) i (-5)) (c + 2) i (-5)) (wr μ c 1 40)
def mz : hb_m := (List.range 30).foldl (fun μ y => mzy μ (38 * (y / 5) + 8 + 6 * (y % 5))) m0
set_option maxRecDepth 100000 in
theorem mz_all : ∀ k, k < 241 → ∀ i, i < 24 → rd mz k i = iv k i := by decide +kernel
theorem mz_232 : ∀ i, i < 60 → rd mz 232 i = 0 := by decide +kernel
theorem mz_at {k i : Nat} (hk : k < 241) (hi : i < 24) : rd mz k i = iv k i := mz_all k hk i hi
theorem mz_L : ∀ i, rL mz 240 i = 0 := by
  have h : ∀ (l : List Nat) (μ : hb_m) (c : Nat), rL (l.foldl (fun m i => wr (wr m (c + 1) i (-5)) (c + 2) i (-5)) μ) = rL μ := by
    intro l
    induction l with
    | nil => intro μ c; rfl
    | cons a l ih =>
      intro μ c
      rw [List.foldl_cons, ih, rLf_wr, rLf_wr]
  have h2 : ∀ (l : List Nat) (μ : hb_m), rL (l.foldl (fun μ y => mzy μ (38 * (y / 5) + 8 + 6 * (y % 5))) μ) = rL μ := by
    intro l
    induction l with
    | nil => intro μ; rfl
    | cons a l ih =>
      intro μ
      rw [List.foldl_cons, ih]
      unfold mzy
      rw [h, rLf_wr]
  intro i
  show rL ((List.range 30).foldl (fun μ y => mzy μ (38 * (y / 5) + 8 + 6 * (y % 5))) m0) 240 i = 0
  rw [h2]
  rfl
/-- where a world looks -/
def ag (k i : Nat) : Prop := match kdX k with
  | .inl (_, fl) => fl[i]? = some none
  | .inr (.inl (_, n)) => i < n
  | .inr (.inr (.inl n)) => i < n
  | .inr (.inr (.inr _)) => False
theorem hb_F_co {ad : Nat → Nat} {f g : Nat → Int32} : ∀ (fl : List (Option Nat)) (i : Nat), (∀ j, fl[j]? = some none → f (i + j) = g (i + j)) → hb_F ad f i fl = hb_F ad g i fl
  | [], _, _ => rfl
  | some a :: r, i, h => by
    simp only [hb_F]
    have h1 := hb_F_co (ad := ad) (f := f) (g := g) r (i + 1) (fun j hj => by
      have h2 := h (j + 1) (by simpa using hj)
      rw [show i + (j + 1) = i + 1 + j by omega] at h2
      exact h2)
    rw [h1]
  | none :: r, i, h => by
    simp only [hb_F]
    have h1 := hb_F_co (ad := ad) (f := f) (g := g) r (i + 1) (fun j hj => by
      have h2 := h (j + 1) (by simpa using hj)
      rw [show i + (j + 1) = i + 1 + j by omega] at h2
      exact h2)
    have h3 : f i = g i := h 0 rfl
    rw [h1, h3]
theorem hb_W0 {ad : Nat → Nat} {D : va_G} {dA : Nat → ClassId} {φ : Nat → Nat → Int32} {ψ : Nat → Nat → Int64} {μ : hb_m} {H : Heap} (h : va_P D vwCl (hb_L 241 ad (hb_E0 ad dA kdX φ ψ)) H) (h1 : ∀ k, k < 241 → ∀ i, ag k i → φ k i = rd μ k i) (h2 : ∀ k, k < 241 → ∀ i, ag k i → ψ k i = rL μ k i) : hb_W vwCl kdX 241 ad D dA μ H := by
  intro k q hq
  obtain ⟨hk, rfl⟩ := hb_L_at hq
  have h0 := h k _ (hb_L_get hk)
  have g1 := h1 k hk
  have g2 := h2 k hk
  unfold ag at g1 g2
  show va_at D vwCl (ad k, hb_E0 ad dA kdX (rd μ) (rL μ) k) H
  unfold hb_E0 at h0 ⊢
  split at h0
  · next ci fl e =>
    rw [e] at g1 g2
    rw [hb_F_co (f := φ k) (g := rd μ k) fl 0 (fun j hj => by rw [Nat.zero_add]; exact g1 j hj)] at h0
    exact h0
  · next ty n e =>
    rw [e] at g1 g2
    refine Eq.trans h0 ?_
    show some (arrV (dA k) n (fun j => .int (φ k j))) = some (arrV (dA k) n (fun j => .int (rd μ k j)))
    exact congrArg some (arrV_co (fun j hj => by rw [g1 j hj]))
  · next n e =>
    rw [e] at g1 g2
    refine Eq.trans h0 ?_
    show some (arrV (dA k) n (fun j => .long (ψ k j))) = some (arrV (dA k) n (fun j => .long (rL μ k j)))
    exact congrArg some (arrV_co (fun j hj => by rw [g2 j hj]))
  · next C l e =>
    exact h0
theorem hF_iv {u : hS} (hu : hF u) {j r i : Nat} (hj : j < 6) (hr : r < 38) (ha : ag (38 * j + r) i) : u.2.1 r i = iv (38 * j + r) i := by
  obtain ⟨-, z, y⟩ := hu
  have e228 : ¬ 228 ≤ 38 * j + r := by omega
  have er : (38 * j + r) % 38 = r := by omega
  have ej : (38 * j + r) / 38 = j := by omega
  unfold iv
  rw [if_neg e228, er]
  by_cases h8 : r < 8
  · rw [if_pos h8]
    exact z r i h8
  · rw [if_neg h8]
    obtain ⟨y0, q, hy, hq, rfl⟩ : ∃ y0 q, y0 < 5 ∧ q < 6 ∧ r = 8 + 6 * y0 + q := ⟨(r - 8) / 6, (r - 8) % 6, by omega, by omega, by omega⟩
    obtain ⟨w0, w1, w2, w3, w4, w5⟩ := y y0 hy
    have eq : (8 + 6 * y0 + q - 8) % 6 = q := by omega
    have ek : kdX (38 * j + (8 + 6 * y0 + q)) = kxYs (38 * j + 8 + 6 * y0) q := by
      unfold kdX
      rw [if_pos (by omega), er, ej, show 8 + 6 * y0 + q = (6 * y0 + q) + 8 by omega]
      show kxYs (38 * j + 8 + 6 * ((6 * y0 + q) / 6)) ((6 * y0 + q) % 6) = _
      rw [show (6 * y0 + q) / 6 = y0 by omega, show (6 * y0 + q) % 6 = q by omega]
    unfold ag at ha
    rw [ek] at ha
    rw [eq]
    rcases (show q = 0 ∨ q = 1 ∨ q = 2 ∨ q = 3 ∨ q = 4 ∨ q = 5 by omega) with rfl | rfl | rfl | rfl | rfl | rfl
    · rw [if_pos rfl]
      have hi : i < 3 := by
        match i, ha with
        | 0, _ => decide
        | 1, _ => decide
        | 2, _ => decide
        | 3, h => cases h
        | 4, h => cases h
        | 5, h => cases h
        | 6, h => cases h
        | 7, h => cases h
        | i + 8, h => cases h
      rw [Nat.add_zero]
      rcases (show i = 0 ∨ i = 1 ∨ i = 2 by omega) with rfl | rfl | rfl
      · rw [if_neg (by decide)]; exact w0
      · rw [if_pos rfl]; exact w1
      · rw [if_neg (by decide)]; exact w2
    · rw [if_neg (by decide), if_pos (by decide), if_pos (show i < 8 from ha)]
      exact w3 i ha
    · rw [if_neg (by decide), if_pos (by decide), if_pos (show i < 8 from ha)]
      exact w4 i ha
    · rw [if_neg (by decide), if_neg (by decide)]
      exact w5 3 i (by omega) (by omega)
    · rw [if_neg (by decide), if_neg (by decide)]
      exact w5 4 i (by omega) (by omega)
    · rw [if_neg (by decide), if_neg (by decide)]
      exact w5 5 i (by omega) (by omega)
theorem ag_24 {k i : Nat} (hk : k < 241) (h : ag k i) : k = 232 ∧ i < 60 ∨ i < 24 := by
  have h0 : ∀ k, k < 241 → k ≠ 232 → (match kdX k with | .inl (_, fl) => fl.length | .inr (.inl (_, n)) => n | .inr (.inr (.inl n)) => n | .inr (.inr (.inr _)) => 0) ≤ 24 := by decide +kernel
  unfold ag at h
  by_cases e : k = 232
  · subst e
    exact Or.inl ⟨rfl, h⟩
  · refine Or.inr ?_
    have h1 := h0 k hk e
    revert h h1
    match kdX k with
    | .inl (_, fl) =>
      intro h h1
      have := (List.getElem?_eq_some_iff.mp h).1
      exact Nat.lt_of_lt_of_le this h1
    | .inr (.inl (_, n)) => intro h h1; exact Nat.lt_of_lt_of_le h h1
    | .inr (.inr (.inl n)) => intro h h1; exact Nat.lt_of_lt_of_le h h1
    | .inr (.inr (.inr _)) => intro h h1; exact h.elim
theorem xw_start {cI cZ cC cJ cY cH : ClassId} {b : Nat} {u : xS} (hu : xP b u) {D : va_G} {A : Nat → Prop} {H : Heap} (hP : va_P D vwCl (xW cI cZ cC cJ cY cH u) H) (hD : va_D A (xW cI cZ cC cJ cY cH u)) : ∃ ad : Nat → Nat, ad 228 = b ∧ hb_I 241 ad ∧ (∀ k, k < 241 → A (ad k)) ∧ hb_W vwCl kdX 241 ad D (bD cI cZ cC cJ cY cH kdX) mz H := by
  obtain ⟨b', ⟨h1, h2⟩, ⟨⟨a0, a1⟩, ⟨i1, i2, i3, i4⟩, rw⟩, tx, ac⟩ := u
  obtain ⟨e0, f1, f2, er, g1, g2, g3, g4⟩ := hu
  have hby := xw_by (cI := cI) (cZ := cZ) (cC := cC) (cJ := cJ) (cY := cY) (cH := cH) (b := b') (a0 := a0) (a1 := a1) (h1 := h1) (h2 := h2) (i1 := i1) (i2 := i2) (i3 := i3) (i4 := i4) (rw := rw) (tx := tx) (ac := ac) f1.1 f2.1 g1.1 g2.1 g3.1 g4.1 er
  have hlen : (hb_L 241 (xA b' a0 a1 h1 h2 i1 i2 i3 i4 tx ac) (hb_E0 (xA b' a0 a1 h1 h2 i1 i2 i3 i4 tx ac) (bD cI cZ cC cJ cY cH kdX) kdX (xU h1 h2 i1 i2 i3 i4) (fun _ _ => 0))).length = 241 := by simp [hb_L]
  have hD' := hD.by xPos hby (fun i j hi hj h => xw_inj0 i (by rw [hlen] at hi; exact hi) j (by rw [hlen] at hj; exact hj) h)
  refine ⟨xA b' a0 a1 h1 h2 i1 i2 i3 i4 tx ac, e0, fun i j hi hj h => hD'.1 i j _ _ (hb_L_get hi) (hb_L_get hj) h, fun k hk => hD'.2 k _ (hb_L_get hk), hb_W0 (hP.by xPos hby) (fun k hk i hi => ?_) (fun k hk i hi => ?_)⟩
  · have hz : rd mz k i = iv k i := by
      rcases ag_24 hk hi with ⟨rfl, h60⟩ | h24
      · exact mz_232 i h60
      · exact mz_at hk h24
    rw [hz]
    by_cases h228 : k < 228
    · obtain ⟨j, r, hj, hr, rfl⟩ : ∃ j r, j < 6 ∧ r < 38 ∧ k = 38 * j + r := ⟨k / 38, k % 38, by omega, by omega, by omega⟩
      unfold xU
      rw [if_pos h228, show (38 * j + r) / 38 = j by omega, show (38 * j + r) % 38 = r by omega]
      rcases (show j = 0 ∨ j = 1 ∨ j = 2 ∨ j = 3 ∨ j = 4 ∨ j = 5 by omega) with rfl | rfl | rfl | rfl | rfl | rfl
      · exact hF_iv f1 hj hr hi
      · exact hF_iv f2 hj hr hi
      · exact hF_iv g1 hj hr hi
      · exact hF_iv g2 hj hr hi
      · exact hF_iv g3 hj hr hi
      · exact hF_iv g4 hj hr hi
    · unfold xU iv
      rw [if_neg h228, if_pos (by omega)]
  · have hk240 : k = 240 ∨ True := Or.inr trivial
    show (0 : Int64) = rL mz k i
    have h2 : ∀ (l : List Nat) (μ : hb_m), rL (l.foldl (fun μ y => mzy μ (38 * (y / 5) + 8 + 6 * (y % 5))) μ) = rL μ := by
      intro l
      induction l with
      | nil => intro μ; rfl
      | cons a l ih =>
        intro μ
        rw [List.foldl_cons, ih]
        unfold mzy
        have h : ∀ (l : List Nat) (μ : hb_m) (c : Nat), rL (l.foldl (fun m i => wr (wr m (c + 1) i (-5)) (c + 2) i (-5)) μ) = rL μ := by
          intro l
          induction l with
          | nil => intro μ c; rfl
          | cons a l ih =>
            intro μ c
            rw [List.foldl_cons, ih, rLf_wr, rLf_wr]
        rw [h, rLf_wr]
    show (0 : Int64) = rL ((List.range 30).foldl (fun μ y => mzy μ (38 * (y / 5) + 8 + 6 * (y % 5))) m0) k i
    rw [h2]
    rfl
/-- the model's memory at the start -/
def mv : hb_m := wr m0 1 4 40
theorem RR_0 : RR mz mv := by
  have v0 : ∀ i, rd mv 0 i = 0 := fun i => by unfold mv; rw [rd_wr, if_neg (by omega), rd_m0]
  have v1 : ∀ k, rd mv 1 k = if k = 4 then 40 else 0 := fun k => by
    unfold mv
    rw [rd_wr, rd_m0]
    simp only [true_and]
  have z : ∀ k i, k < 241 → i < 24 → rd mz k i = iv k i := fun k i hk hi => mz_at hk hi
  refine ⟨⟨0, 0, 0, Inv_mk ⟨by omega, by omega, by omega⟩ ⟨by rw [v1]; rfl, by rw [v1]; rfl, by rw [v1]; rfl⟩ ⟨fun f hf => by omega, fun f hf => by omega, fun f hf => by omega⟩ ⟨fun f hf => by omega, fun f hf => by omega, fun f hf => by omega, fun f hf => by omega⟩ ⟨fun y hy => by omega, fun y f hy => by omega⟩, Rep_mk ⟨⟨?_, ?_, ?_, ?_⟩, ⟨?_, ?_, ?_⟩⟩ ⟨fun f hf => by omega, fun f hf => ?_, fun f hf => ?_⟩ ⟨fun d hd => by omega, fun d hd => ?_, fun d hd => ?_, fun d hd => ?_⟩ ⟨fun y hy => by omega, fun k hk => ?_⟩⟩, ⟨0, 0, by omega, by omega, ?_, ?_, v0 2, fun i hi => by omega⟩, ⟨?_, Or.inl (v0 4)⟩, ⟨0, by omega, ?_, v0 6, fun i hi => by omega⟩⟩
  · rw [z _ _ (by omega) (by omega)]; rfl
  · rw [v1, z _ _ (by omega) (by omega)]; rfl
  · rw [v1, z _ _ (by omega) (by omega)]; rfl
  · rw [z _ _ (by omega) (by omega)]; rfl
  · rw [v1, z _ _ (by omega) (by omega)]; rfl
  · rw [v1, z _ _ (by omega) (by omega)]; rfl
  · rw [z _ _ (by omega) (by omega)]; rfl
  · rw [if_neg (by omega), z _ _ (by omega) (by omega)]
    rcases (show f = 0 ∨ f = 1 ∨ f = 2 ∨ f = 3 ∨ f = 4 ∨ f = 5 ∨ f = 6 ∨ f = 7 by omega) with rfl | rfl | rfl | rfl | rfl | rfl | rfl | rfl <;> rfl
  · rw [if_neg (by omega), z _ _ (by omega) (by omega)]
    rcases (show f = 0 ∨ f = 1 ∨ f = 2 ∨ f = 3 ∨ f = 4 ∨ f = 5 ∨ f = 6 ∨ f = 7 by omega) with rfl | rfl | rfl | rfl | rfl | rfl | rfl | rfl <;> rfl
  · rw [if_neg (by omega), z _ _ (by omega) (by omega)]; rfl
  · rw [if_neg (by omega), z _ _ (by omega) (by omega)]; rfl
  · rw [if_neg (by omega), z _ _ (by omega) (by omega)]; rfl
  · rw [z _ _ (by omega) (by omega)]; rfl
  · rw [z _ _ (by omega) (by omega)]; rfl
  · rw [z _ _ (by omega) (by omega)]; rfl
  · rw [v0, z _ _ (by omega) (by omega)]; rfl
  · rw [z _ _ (by omega) (by omega)]; rfl

/-! THE START: both worlds, and the relation -/
def xF0 (μ : hb_m) : Prop := (∀ k j, k < 8 → rd μ k j = 0) ∧ rd μ 8 0 = 0 ∧ rd μ 8 1 = 40 ∧ rd μ 8 2 = 0 ∧ (∀ j, j < 8 → rd μ 9 j = -5) ∧ (∀ j, j < 8 → rd μ 10 j = -5) ∧ (∀ j, rd μ 13 j = 0) ∧ (∀ k j, 228 ≤ k → rd μ k j = 0)
theorem xw_start {cI cZ cC cJ cY cH : ClassId} {b : Nat} {u : xS} (hu : xP b u) {D : va_G} {A : Nat → Prop} {H : Heap} (hP : va_P D vwCl (xW cI cZ cC cJ cY cH u) H) (hD : va_D A (xW cI cZ cC cJ cY cH u)) : ∃ (ad : Nat → Nat) (μ : hb_m), ad 228 = b ∧ hb_I 241 ad ∧ (∀ k, k < 241 → A (ad k)) ∧ hb_W vwCl kdX 241 ad D (bD cI cZ cC cJ cY cH kdX) μ H ∧ xF0 μ := by
  obtain ⟨b', ⟨h1, h2⟩, ⟨⟨a0, a1⟩, ⟨i1, i2, i3, i4⟩, rw⟩, tx, ac⟩ := u
  obtain ⟨e0, f1, f2, er, g1, g2, g3, g4⟩ := hu
  have hby := xw_by (cI := cI) (cZ := cZ) (cC := cC) (cJ := cJ) (cY := cY) (cH := cH) (b := b') (a0 := a0) (a1 := a1) (h1 := h1) (h2 := h2) (i1 := i1) (i2 := i2) (i3 := i3) (i4 := i4) (rw := rw) (tx := tx) (ac := ac) f1.1 f2.1 g1.1 g2.1 g3.1 g4.1 er
  have hlen : (hb_L 241 (xA b' a0 a1 h1 h2 i1 i2 i3 i4 tx ac) (hb_E (xA b' a0 a1 h1 h2 i1 i2 i3 i4 tx ac) (bD cI cZ cC cJ cY cH kdX) kdX (xU h1 h2 i1 i2 i3 i4, fun _ _ => 0))).length = 241 := by simp [hb_L]
  have hD' := hD.by xPos hby (fun i j hi hj h => xw_inj0 i (by rw [hlen] at hi; exact hi) j (by rw [hlen] at hj; exact hj) h)
  refine ⟨xA b' a0 a1 h1 h2 i1 i2 i3 i4 tx ac, (xU h1 h2 i1 i2 i3 i4, fun _ _ => 0), e0, fun i j hi hj h => hD'.1 i j _ _ (hb_L_get hi) (hb_L_get hj) h, fun k hk => hD'.2 k _ (hb_L_get hk), hP.by xPos hby, ?_⟩
  obtain ⟨-, z, y⟩ := f1
  obtain ⟨y0, y1, y2, y3, y4, y5⟩ := y 0 (by omega)
  refine ⟨fun k j hk => ?_, y0, y1, y2, y3, y4, fun j => y5 5 j (by omega) (by omega), fun k j hk => ?_⟩
  · show xU h1 h2 i1 i2 i3 i4 k j = 0
    unfold xU
    rw [if_pos (by omega), show k / 38 = 0 by omega, show k % 38 = k by omega]
    exact z k j hk
  · show xU h1 h2 i1 i2 i3 i4 k j = 0
    unfold xU
    rw [if_neg (by omega)]
theorem mU1 (k : Nat) : mU 1 k = if k = 4 then 40 else 0 := by
  show upd (fun _ => 0) 4 40 k = _
  unfold upd
  rfl
theorem RR_0 {μ : hb_m} (h : xF0 μ) : RR μ (mU, fun _ _ => 0) := by
  obtain ⟨z, y0, y1, y2, y3, y4, y5, z2⟩ := h
  have m0 : ∀ i, rd (mU, fun _ _ => (0 : Int64)) 0 i = 0 := fun i => rfl
  have m1 : ∀ k, rd (mU, fun _ _ => (0 : Int64)) 1 k = if k = 4 then 40 else 0 := fun k => mU1 k
  refine ⟨⟨0, 0, 0, Inv_mk ⟨by omega, by omega, by omega⟩ ⟨by rw [m1]; rfl, by rw [m1]; rfl, by rw [m1]; rfl⟩ ⟨fun f hf => by omega, fun f hf => by omega, fun f hf => by omega⟩ ⟨fun f hf => by omega, fun f hf => by omega, fun f hf => by omega, fun f hf => by omega⟩ ⟨fun y hy => by omega, fun y f hy => by omega⟩, Rep_mk ⟨⟨?_, ?_, ?_, ?_⟩, ⟨?_, ?_, ?_⟩⟩ ⟨fun f hf => by omega, fun f hf => ?_, fun f hf => ?_⟩ ⟨fun d hd => by omega, fun d hd => ?_, fun d hd => ?_, fun d hd => ?_⟩ ⟨fun y hy => by omega, fun k hk => y5 k⟩⟩, ⟨0, 0, by omega, by omega, ?_, ?_, m0 2, fun i hi => by omega⟩, ⟨?_, Or.inl (m0 4)⟩, ⟨0, by omega, ?_, m0 6, fun i hi => by omega⟩⟩
  · exact z 0 0 (by omega)
  · rw [m1]; exact z 0 7 (by omega)
  · rw [m1]; exact z 0 8 (by omega)
  · exact z 0 10 (by omega)
  · rw [m1]; exact y0
  · rw [m1]; exact y1
  · exact y2
  · rw [if_neg (by omega)]; exact y3 f hf
  · rw [if_neg (by omega)]; exact y4 f hf
  · rw [if_neg (by omega)]; exact z 4 d (by omega)
  · rw [if_neg (by omega)]; exact z 5 d (by omega)
  · rw [if_neg (by omega)]; exact z 6 d (by omega)
  · exact z2 229 1 (by omega)
  · exact z2 229 2 (by omega)
  · rw [m0]; exact z2 228 2 (by omega)
  · exact z2 231 1 (by omega)

/-! WHAT IS DRAWN: a number; which, is of no matter -/
def drw (xs : Nat → Int32) (L : Nat) (k : Int32) : Int32 := if L = 0 then 7919 * k + 3 else (xs (k - k / nI L * nI L).toNatClampNeg >>> ((k - k / 7 * 7) &&& 31) ^^^ k / nI L * 31) ^^^ k * 2654435
def dP (b L : Nat) (xs : Nat → Int32) (U : State) : Prop := va_X b L xs U U.heap ∧ b < U.heap.size
theorem dr_blind {av : List Value} {b L : Nat} {xs : Nat → Int32} : FrameBlind (va_Pc av (dP b L xs)) := by
  intro a U g mk h
  exact ⟨h.1, va_X.moved (u := U) (U := U.calling g mk a) (Vm.Alike.refl U.vm) h.2.1, h.2.2⟩
theorem dr_at {b L : Nat} {xs : Nat → Int32} {s U : State} {H : Heap} {locs : List Loc} (h : va_X b L xs s s.heap ∧ b < s.heap.size) (hU : U.heap = H) (hWm : s.WarmedH U.vm) (hS : va_S (fun q => s.heap.size ≤ q) s.heap H locs) : dP b L xs U := by
  refine ⟨?_, by rw [hU]; exact Nat.lt_of_lt_of_le h.2 hS.1⟩
  have h1 := va_X.moved hWm.alike h.1
  obtain ⟨scr, g1, g2, g3, g4, g5⟩ := h1
  exact ⟨scr, by rw [hU, hS.2.1 b h.2 (Nat.not_le.mpr h.2)]; exact g1, g2, g3, g4, g5⟩
abbrev rmL_drawn : Room := { frames := 0, cells := 0, slots := 0, locals := 0 }
theorem hmL_drawn_8 : Cond.constant RL 8 (2654435) ∈ wsL_drawn := List.mem_of_getElem? (i := 1) rfl
theorem dr_in {k : Int32} {L : Nat} (hk : 0 ≤ k) (h0 : 0 < L) (hL : L ≤ 260) : vp_in (k - k / nI L * nI L) L := by
  obtain ⟨j, hj, rfl⟩ := nI_of (Int32.not_lt.mpr hk)
  rw [pk_rem hj h0 (by omega)]
  have := Nat.mod_lt j h0
  rintro (q | q)
  · exact nI_pos (by omega) q
  · rw [cl_ok (by omega)] at q; omega
set_option maxHeartbeats 4000000 in
theorem tL_drawn {l : Launch} {b L : Nat} {xs : Nat → Int32} (hL : L ≤ 260) {k r : Int32} (h : (if 0 ≤ k then some (drw xs L k) else none) = some r) : Met l yL_drawn wsL_drawn rmL_drawn (va_Pc [.ref b, .int k] (dP b L xs)) (nQ r) 0 0 (fun _ => False) := by
  have hk : 0 ≤ k := by
    by_cases h0 : 0 ≤ k
    · exact h0
    · rw [if_neg h0] at h; cases h
  rw [if_pos hk] at h
  cases h
  refine Met.ofW (cc := cL_drawn) (maxL := 2) (ret := some .int) (by decide) rfl ?_
  intro p e s m args below meth c s₁ B hml hv
  obtain ⟨rfl, hX, hb⟩ := hv
  rw [lg_entry_eq]
  have hl := lv_entry ([.ref b, .int k]) (n := 2) (Nat.le_of_ble_eq_true rfl)
  generalize (lg_sl ([.ref b, .int k]) ++ List.replicate (2 - (lg_sl ([.ref b, .int k])).length) Slot.unset).toArray = ls at hl ⊢
  have hl : lv_has ls 2 [(0, .ref b), (1, .int k)] := hl
  have hx := B.exec
  have hbb := B.bytes
  have hts : ∀ w ∈ wsL_drawn, w.before ([.ref b, .int k] : List Value).toArray s = true := atoms_spec (ws := wsL_drawn) B.pre
  have hS : va_S (fun q => s.heap.size ≤ q) s.heap s.heap [] := va_S.rf
  have hbA : ¬ (fun q => s.heap.size ≤ q) b := Nat.not_le.mpr hb
  have hend : ∀ (v : Int32), W p l e rmL_drawn s m ([.ref b, .int k] : List Value).toArray below meth c s.heap [] 0 0 (MQ below (nQ v) ([.ref b, .int k] : List Value).toArray s 0 0 (fun _ => False)) (F0 m 39 ls [.int v]) := fun v => W.iret hx hbb B.returns (fun t ht hWm => ⟨rfl, by rw [ht]; exact Nat.le_refl _, fun q _ _ => by rw [ht]⟩) (fun q hq => by cases hq) dL_drawn_39 B.notSynchronized
  refine lv_aload_n hx hbb dL_drawn_0 rfl (lv_at hl 0 rfl) ?_
  refine va_slen hx hbb hX hb hbA hS dL_drawn_1 ?_
  by_cases h0 : L = 0
  · subst h0
    refine lv_if_ne (tgt := 15) hx hbb dL_drawn_2 (by decide) (fun q => absurd rfl q) (fun _ => ?_)
    refine lv_sipush (v := 7919) hx hbb dL_drawn_5 (by decide) ?_
    refine lv_iload_n hx hbb dL_drawn_8 rfl (lv_at hl 1 rfl) ?_
    refine lv_imul hx hbb dL_drawn_9 ?_
    refine lv_iconst (v := 3) hx hbb dL_drawn_10 (by decide) ?_
    refine lv_iadd hx hbb dL_drawn_11 ?_
    refine lv_goto (tgt := 39) hx hbb dL_drawn_12 (by decide) ?_
    exact hend _
  · have hne : ¬ nI L = 0 := by rw [li0, eq_ok (by omega) (by omega)]; exact h0
    refine lv_if_ne (tgt := 15) hx hbb dL_drawn_2 (by decide) (fun _ => ?_) (fun q => absurd q hne)
    refine lv_aload_n hx hbb dL_drawn_15 rfl (lv_at hl 0 rfl) ?_
    refine lv_iload_n hx hbb dL_drawn_16 rfl (lv_at hl 1 rfl) ?_
    refine lv_aload_n hx hbb dL_drawn_17 rfl (lv_at hl 0 rfl) ?_
    refine va_slen hx hbb hX hb hbA hS dL_drawn_18 ?_
    refine lv_irem hx hbb dL_drawn_19 hne ?_
    refine va_sld hx hbb hX hb hbA hS (dr_in hk (by omega) hL) dL_drawn_20 ?_
    refine lv_iload_n hx hbb dL_drawn_21 rfl (lv_at hl 1 rfl) ?_
    refine lv_bipush (v := 7) hx hbb dL_drawn_22 (by decide) ?_
    refine lv_irem hx hbb dL_drawn_24 (by decide) ?_
    refine lv_ishr hx hbb dL_drawn_25 ?_
    refine lv_iload_n hx hbb dL_drawn_26 rfl (lv_at hl 1 rfl) ?_
    refine lv_aload_n hx hbb dL_drawn_27 rfl (lv_at hl 0 rfl) ?_
    refine va_slen hx hbb hX hb hbA hS dL_drawn_28 ?_
    refine lv_idiv hx hbb dL_drawn_29 hne ?_
    refine lv_bipush (v := 31) hx hbb dL_drawn_30 (by decide) ?_
    refine lv_imul hx hbb dL_drawn_32 ?_
    refine lv_ixor hx hbb dL_drawn_33 ?_
    refine lv_iload_n hx hbb dL_drawn_34 rfl (lv_at hl 1 rfl) ?_
    refine lv_ldc (v := 2654435) hx hbb (findClass_of_methodNamed B.named) (hts _ hmL_drawn_8) dL_drawn_35 ?_
    refine lv_imul hx hbb dL_drawn_37 ?_
    refine lv_ixor hx hbb dL_drawn_38 ?_
    have hd : drw xs L k = (xs (k - k / nI L * nI L).toNatClampNeg >>> ((k - k / 7 * 7) &&& 31) ^^^ k / nI L * 31) ^^^ k * 2654435 := by
      unfold drw
      rw [if_neg h0]
    rw [hd]
    exact hend _
def lE (p : Program) (l : Launch) (e : Env) (s : State) (m : MethodId) (b : Nat) (below : List Frame) (meth : Method) (c : Code) (Q : Int32 → State → Prop) : Prop := ∀ (x : Int32) (pc : Nat) (ls : Array Slot) (H : Heap) (locs : List Loc), decode cL_law pc = .ok (.ireturn, 1) → va_S (fun q => s.heap.size ≤ q) s.heap H locs → W p l e room_1 s m #[Value.ref b] below meth c H locs 600000 7302250 (Q x) (F0 m pc ls [.int x])
theorem nr_lawret {p : Program} {l : Launch} {e : Env} {s : State} {m : MethodId} {b : Nat} {below : List Frame} {meth : Method} {c : Code} {nL : Nat} {own : String} {Ts : List Cond} {D : va_G} {cI cZ cC cJ cY cH : ClassId} {t1 t2 : Nat} {z : nZ} {cells slots : Nat} {μ : lm} {pc : Nat} {lv : List (Nat × Value)} {x : Int32} {Q : Int32 → State → Prop} (hC : nC p s m #[Value.ref b] meth c cL_law nL own Ts D cI cZ cC cJ cY cH t1 t2) (hE : lE p l e s m b below meth c Q) (h1 : cells ≤ 600000) (h2 : slots ≤ 7302250) (hd : decode cL_law pc = .ok (.ireturn, 1)) : nV p l e room_1 s m #[Value.ref b] below meth c nL D cI cZ cC cJ cY cH Q z cells slots μ pc lv [.int x] (some x) := by
  intro out ho hO ls hl H locs hW hS
  cases ho
  exact W.widen h1 h2 (hE x pc ls H locs hd hS)

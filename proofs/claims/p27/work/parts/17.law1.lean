/-! THE LAW (1): two worlds beside each other -/
theorem hb_T_mo {tb : List hb_tb} {A B : Nat → Prop} {U : State} {H : Heap} (h : hb_T tb A U H) (hAB : ∀ q, B q → A q) : hb_T tb B U H := by
  intro q hq
  obtain ⟨⟨cf, kf, fi, f, a, cell, z1, z2, z3, z4, z5, z6, z7, z8⟩, ⟨c2, y1, y2, y3, y4, y5, y6, y7⟩⟩ := h q hq
  exact ⟨⟨cf, kf, fi, f, a, cell, z1, z2, z3, z4, z5, z6, z7, fun w => z8 (hAB _ w)⟩, ⟨c2, y1, y2, y3, y4, y5, y6, fun w => y7 (hAB _ w)⟩⟩
section LAW1
variable {p : Program} {l : Launch} {e : Env} {R : Room} {s : State} {m : MethodId} {args : Array Value} {below : List Frame} {meth : Method} {c : Code} {cc : ByteArray} {nL : Nat} {own : String} {Ts : List Cond} {kd : Nat → hb_k} {N : Nat} {ad : Nat → Nat} {D : va_G} {dA : Nat → ClassId} {tb : List hb_tb} {nw : List hb_nw} {Q : State → Prop} {μ μ1 : hb_m} {cells slots pc : Nat} {st : List Value}
theorem l_call (hC : p.tables.exec = Jvm.exec ∧ c.code = cc ∧ c.maxLocals = nL ∧ s.vm.findClass own = some m.cls ∧ ∀ w ∈ Ts, w.before args s = true) {y : MethodName} {bytes : ByteArray} {maxL n index : Nat} {ret : Option FieldType} {ws : List Cond} {rm : Room} {As : List Value} {fl : List (Option Nat)} {ci k : Nat} {q : vw_C} {Cn : String} {r : Int32} (hM : hb_M (hb_Qi vwCl kd N ad D dA) l y ws rm vwCl kd N ad D dA tb nw (.ref (ad k) :: As) μ (some (r, μ1))) (hw : CallW R s args own Cn index y bytes maxL ret ws rm 0 0 n) (hk : k < N ∧ kd k = .inl (ci, fl)) (hc : vwCl[ci]? = some q) (hcn : q.1 = Cn) (hn : As.length = n) (hroom : (st.map fun v => v.category).sum ≤ 8) (hd : decode cc pc = .ok (.invokevirtual index, 3)) (hge : ∀ i, i < N → s.heap.size ≤ ad i) (hK : hb_K vwCl kd N D dA s) (hT : hb_T tb (fun q => s.heap.size ≤ q) s s.heap) (hNw : hb_N nw s) (hcs : cells ≤ R.cells ∧ slots ≤ R.slots) {ls : Array Slot} (hl : ls.size = nL) {H : Heap} {locs : List Loc} (hW : hb_W vwCl kd N ad D dA μ H) (hS : va_S (fun q => s.heap.size ≤ q) s.heap H locs)
    (kk : ∀ (H1 : Heap) (locs1 : List Loc), hb_W vwCl kd N ad D dA μ1 H1 → (∀ q : Nat, q < H.size → ¬ hb_A N ad q → H1[q]? = H[q]?) → va_S (fun q => s.heap.size ≤ q) s.heap H1 locs1 → W p l e R s m args below meth c H1 locs1 cells slots Q (F0 m (pc + 3) ls (.int r :: st))) : W p l e R s m args below meth c H locs cells slots Q (F0 m pc ls (As.reverse ++ .ref (ad k) :: st)) := by
  have hAA : ∀ q, hb_A N ad q → s.heap.size ≤ q := fun q ⟨i, hi, hq⟩ => by rw [hq]; exact hge i hi
  have hRR : ∀ U : State, U.heap = H → s.WarmedH U.vm → hb_R vwCl kd N ad D dA tb nw μ U := by
    intro U hU hWm
    refine ⟨by rw [hU]; exact hW, hK.moved hWm.alike, ?_, hNw.warm hWm⟩
    rw [hU]
    exact hb_T_mo ((hT.kept hS.2.1).moved hWm.alike) hAA
  have hrun := va_runV (l := l) (e := e) (meth := meth) (below := below) (H := H) (locs := locs) (cells := cells) (slots := slots) (As := As) (rest := st) (g := F0 m pc ls (As.reverse ++ .ref (ad k) :: st)) hC (hM _ rfl) hw ⟨hb_blind, by
    subst hcn
    exact va_recv (q0 := k) hK.1 hW hc (by rw [hb_L_get hk.1, hb_E, hb_E0, hk.2]), fun U hU hWm => ⟨rfl, hRR U hU hWm⟩⟩ rfl hn hl rfl (lv_room hroom) hd ⟨hcs.1, hcs.2⟩
  intro T hT0 X0
  obtain ⟨v1, st₀, t, T', L, h0, X', hL, e1, e2, ⟨⟨hv, hW1⟩, hz, hk1⟩, g1⟩ := hrun T hT0 X0
  cases hv
  rw [h0] at hz hk1
  obtain ⟨t2, a1, b1⟩ := kk T'.heap (locs ++ L) (by rw [e1]; exact hW1) (fun q h1 h2 => by rw [e1]; exact hk1 q h1 h2) ⟨Nat.le_trans hS.1 (by rw [e1]; exact hz), fun q h1 h2 => by
    rw [e1, hk1 q (Nat.lt_of_lt_of_le h1 hS.1) (fun z => h2 (hAA q z))]
    exact hS.2.1 q h1 h2, fun q hq => by
    rcases List.mem_append.mp hq with h | h
    · exact hS.2.2 q h
    · exact hAA _ (hL q h)⟩ T' rfl X'
  exact ⟨t2, g1 t2 a1, b1⟩
theorem hb_W_kept {kd' : Nat → hb_k} {N' : Nat} {ad' : Nat → Nat} {dA' : Nat → ClassId} {μ' : hb_m} {H H1 : Heap} (h : hb_W vwCl kd' N' ad' D dA' μ' H) (hne : ∀ i, i < N → ∀ j, j < N' → ad i ≠ ad' j) (hk : ∀ q : Nat, q < H.size → ¬ hb_A N ad q → H1[q]? = H[q]?) : hb_W vwCl kd' N' ad' D dA' μ' H1 := by
  intro k q hq
  refine (h k q hq).kept (hk q.1 (h k q hq).lt ?_)
  rintro ⟨i, hi, e⟩
  obtain ⟨hk', rfl⟩ := hb_L_at hq
  exact hne i hi k hk' e.symm
end LAW1

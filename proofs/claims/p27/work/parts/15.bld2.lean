/-! BUILDERS (2): rows filled; a year -/
abbrev kdF : Nat → hb_k := fun _ => .inr (.inl (.int, 8))
def lFl (n : Nat) (p1 : Int32) (v3 : Int32) (k : Int32 → hb_m → Option (hb_m)) : Nat → Int32 → hb_m → Option (hb_m)
  | 0, _, _ => none
  | f + 1, x2, μ => if v3 ≤ x2 then (k x2 μ) else (if ib x2 8 then lFl n p1 v3 k f (x2 + (1 : Int32)) (wr μ 0 x2.toNatClampNeg p1) else none)
def fFl (n : Nat) (p1 : Int32) (μ : hb_m) : Option (hb_m) := lFl n p1 (Int32.ofNat 8) (fun x2_5 m5 => some m5) n (0 : Int32) μ
set_option maxRecDepth 100000 in
set_option maxHeartbeats 4000000 in
theorem tFl {l : Launch} {D : va_G} {ad : Nat → Nat} {dA : Nat → ClassId} (hI : hb_I 1 ad) (n : Nat) (p1 : Int32) (μ : hb_m) : hb_M (hb_Qv vwCl kdF 1 ad D dA) l yJ7_fill_53178 wsJ7_fill_53178 rmJ7_fill_53178 vwCl kdF 1 ad D dA [] [] [.ref (ad 0), .int p1] μ (fFl n p1 μ) := by
  refine hb_start (cc := cJ7_fill_53178) (maxL := 4) (ret := none) (by decide) rfl hI (Nat.le_of_ble_eq_true rfl) [(0, .ref (ad 0)), (1, .int p1)] rfl ?_
  intro p e s m args below meth c hC hr
  have h0 : 0 < 1 ∧ kdF 0 = .inr (.inl (.int, 8)) := ⟨by decide, rfl⟩
  have L5 : ∀ (v3 : Int32) (k : Int32 → hb_m → Option (hb_m)) (hk : ∀ (x2 : Int32) (μ : hb_m), hb_V p l e rmJ7_fill_53178 s m args below meth c 4 vwCl kdF 1 ad D dA (hb_Qv vwCl kdF 1 ad D dA) μ 20 [(3, .int v3), (2, .int x2), (0, .ref (ad 0)), (1, .int p1)] [] (k x2 μ)) (f : Nat) (x2 : Int32) (μ : hb_m), hb_V p l e rmJ7_fill_53178 s m args below meth c 4 vwCl kdF 1 ad D dA (hb_Qv vwCl kdF 1 ad D dA) μ 5 [(3, .int v3), (2, .int x2), (0, .ref (ad 0)), (1, .int p1)] [] (lFl n p1 v3 k f x2 μ) := by
    intro v3 k hk f
    induction f with
    | zero => intro x2 μ; rw [lFl]; exact hr_none
    | succ f ih =>
      intro x2 μ
      rw [lFl]
      refine hr_iload_n hC dJ7_fill_53178_5 rfl 1 rfl ?_
      refine hr_iload_n hC dJ7_fill_53178_6 rfl 0 rfl ?_
      refine hr_icmp_ge (tgt := 20) hC dJ7_fill_53178_7 (by decide) (fun _ => ?_) (fun _ => ?_)
      · refine hr_sub (lv' := [(3, .int v3), (2, .int x2), (0, .ref (ad 0)), (1, .int p1)]) [0, 1, 2, 3] rfl ?_
        exact hk _ _
      · refine hr_aload_n hC dJ7_fill_53178_10 rfl 2 rfl ?_
        refine hr_iload_n hC dJ7_fill_53178_11 rfl 1 rfl ?_
        refine hr_iload_n hC dJ7_fill_53178_12 rfl 3 rfl ?_
        refine hr_iast hC h0 dJ7_fill_53178_13 ?_
        refine hr_iinc (v := (x2 + (1 : Int32))) (lv' := [(2, .int (x2 + (1 : Int32))), (3, .int v3), (0, .ref (ad 0)), (1, .int p1)]) (kx := 1) hC dJ7_fill_53178_14 rfl rfl (by decide) rfl ?_
        refine hr_goto (tgt := 5) hC dJ7_fill_53178_17 (by decide) ?_
        refine hr_sub (lv' := [(3, .int v3), (2, .int (x2 + (1 : Int32))), (0, .ref (ad 0)), (1, .int p1)]) [1, 0, 2, 3] rfl ?_
        exact ih _ _
  rw [fFl]
  refine hr_iconst (v := 0) hC dJ7_fill_53178_0 (by decide) ?_
  refine hr_istore_n (lv' := [(2, .int (0 : Int32)), (0, .ref (ad 0)), (1, .int p1)]) hC dJ7_fill_53178_1 rfl (by decide) rfl ?_
  refine hr_aload_n hC dJ7_fill_53178_2 rfl 1 rfl ?_
  refine hr_alen hC h0 dJ7_fill_53178_3 ?_
  refine hr_istore_n (lv' := [(3, .int (Int32.ofNat 8)), (2, .int (0 : Int32)), (0, .ref (ad 0)), (1, .int p1)]) hC dJ7_fill_53178_4 rfl (by decide) rfl ?_
  refine hr_sub (lv' := [(3, .int (Int32.ofNat 8)), (2, .int (0 : Int32)), (0, .ref (ad 0)), (1, .int p1)]) [0, 1, 2, 3] rfl ?_
  refine L5 _ _ (fun x2_5 m5 => ?_) _ _ _
  exact hr_vret hC hr dJ7_fill_53178_20
theorem X_fl {v : Int32} {μ : hb_m} : ∃ μ', fFl 9 v μ = some μ' ∧ ∀ i, i < 8 → rd μ' 0 i = v := by
  unfold fFl
  rw [show Int32.ofNat 8 = nI 8 from rfl]
  obtain ⟨μ', h2, e⟩ := lo (S := hb_m) (fun f i s => lFl 9 v (nI 8) (fun x2_5 m5 => some m5) f (nI i) s) 8 (fun s => some s) (fun i s => ∀ j, j < i → rd s 0 j = v)
    (fun f s hI => by
      rw [lFl]
      rw [if_pos (by rw [le_ok (by omega) (by omega)]; omega)])
    (fun f i s hi hI => by
      refine ⟨wr s 0 i v, fun j hj => ?_, ?_⟩
      · rw [rd_wr]
        by_cases hk : j = i
        · rw [if_pos ⟨rfl, hk⟩]
        · rw [if_neg (fun q => hk q.2)]
          exact hI j (by omega)
      · rw [lFl]
        rw [if_neg (by rw [le_ok (by omega) (by omega)]; omega), ib_ok (by omega) (by omega), if_pos rfl, cl_ok (by omega), li1, nI_add])
    9 0 μ (by omega) (by omega) (fun j hj => by omega)
  exact ⟨μ', e, h2⟩
theorem arrV_co {c : ClassId} {n : Nat} {f g : Nat → Value} (h : ∀ j, j < n → f j = g j) : arrV c n f = arrV c n g := by
  unfold arrV
  rw [show (fun j : Fin n => f j.val) = fun j : Fin n => g j.val from funext (fun j => h j.val j.isLt)]
def wf (f : Nat → Int32) : Nat → hb_m
  | 0 => m0
  | n + 1 => wr (wf f n) 0 n (f n)
theorem rd_wf {f : Nat → Int32} : ∀ (n i : Nat), i < n → rd (wf f n) 0 i = f i
  | 0, i, h => by omega
  | n + 1, i, h => by
    show rd (wr (wf f n) 0 n (f n)) 0 i = f i
    rw [rd_wr]
    by_cases e : i = n
    · rw [if_pos ⟨rfl, e⟩, e]
    · rw [if_neg (fun q => e q.2), rd_wf n i (by omega)]
section BLD2
variable {p : Program} {l : Launch} {e : Env} {R : Room} {s : State} {m : MethodId} {args : Array Value} {below : List Frame} {meth : Method} {c : Code} {cc : ByteArray} {nL : Nat} {own : String} {Ts : List Cond} {D : va_G} {tys : List (ClassId × FieldType)} {A : Nat → Prop} {Q : State → Prop} {X pl : va_W} {cells slots pc : Nat} {lv : List (Nat × Value)} {st : List Value}
theorem b_fill (hC : bC p s m args meth c cc nL own Ts vwCl D tys A) {a t0 index : Nat} {cA : ClassId} {f : Nat → Int32} {v : Int32} (q0 : Nat) (he : X[q0]? = some (a, .inl (cA, 8, .inl f))) (ht : tys[t0]? = some (cA, .int)) (cw : CallB R s args own index yJ7_fill_53178 cJ7_fill_53178 4 none wsJ7_fill_53178 rmJ7_fill_53178 0 0 2 ∧ (Cond.static yJ7_fill_53178).before args s = true) (hroom : (st.map fun v => v.category).sum ≤ 8) (hd : decode cc pc = .ok (.invokestatic index, 3)) (hcs : cells ≤ R.cells ∧ slots ≤ R.slots) (kk : ∀ f' : Nat → Int32, (∀ j, j < 8 → f' j = v) → bV p l e R s m args below meth c nL vwCl D A Q (X.set q0 (a, .inl (cA, 8, .inl f'))) pl cells slots (pc + 3) lv st) : bV p l e R s m args below meth c nL vwCl D A Q X pl cells slots pc lv (.int v :: .ref a :: st) := by
  intro ls hl H locs hP hD hS
  obtain ⟨μ', e', hf⟩ := X_fl (v := v) (μ := wf f 8)
  have hI : hb_I 1 (fun _ => a) := fun i j hi hj _ => by omega
  have hM := tFl (l := l) (D := D) (dA := fun _ => cA) hI 9 v (wf f 8) μ' e'
  have hA1 : ∀ q : Nat, hb_A 1 (fun _ => a) q → q = a := fun q ⟨k, _, hq⟩ => hq
  have hea := hD.2 q0 _ (b_get he)
  have hRR : ∀ U : State, U.heap = H → s.WarmedH U.vm → hb_R vwCl kdF 1 (fun _ => a) D (fun _ => cA) [] [] (wf f 8) U := by
    intro U hU hWm
    have hKU := va_K.moved hWm.alike hC.2.1
    refine ⟨?_, ⟨⟨hKU.1, fun k q hq => by cases hq⟩, ?_⟩, ?_, ?_⟩
    · intro k q hq
      have hk0 : k < 1 := (List.getElem?_eq_some_iff.mp hq).1
      rw [show k = 0 by omega] at hq
      cases hq
      rw [hU]
      refine Eq.trans (show H[a]? = some (arrV cA 8 (fun j => .int (f j))) from hP q0 _ (b_get he)) ?_
      show some (arrV cA 8 (fun j => .int (f j))) = some (arrV cA 8 (fun j => .int (rd (wf f 8) 0 j)))
      exact congrArg some (arrV_co (fun j hj => by rw [rd_wf 8 j hj]))
    · intro k hk ty hty
      cases hty
      exact hKU.2 t0 _ ht
    · intro q hq
      cases hq
    · intro q hq
      cases hq
  have hrun := va_runS (l := l) (e := e) (meth := meth) (below := below) (H := H) (locs := locs) (cells := cells) (slots := slots) (As := [.ref a, .int v]) (rest := st) (g := F0 m pc ls (.int v :: .ref a :: st)) hC.1 hM cw ⟨hb_blind, fun U hU hWm => ⟨rfl, hRR U hU hWm⟩⟩ rfl rfl hl.1 rfl (lv_room hroom) hd ⟨hcs.1, hcs.2⟩
  intro T hT X0
  obtain ⟨v1, st₀, t, T', L, h0, X', hL, e1, e2, ⟨⟨hv, hW⟩, hz, hk⟩, g1⟩ := hrun T hT X0
  cases hv
  rw [h0] at hz hk
  have hP1 : va_P D vwCl ((X ++ pl).set q0 (a, .inl (cA, 8, .inl (rd μ' 0)))) T'.heap := by
    intro k q hq
    by_cases hkq : k = q0
    · subst hkq
      rw [List.getElem?_set_self (List.getElem?_eq_some_iff.mp (b_get he)).1] at hq
      cases hq
      rw [e1]
      exact hW 0 (a, .inl (cA, 8, .inl (rd μ' 0))) rfl
    · rw [List.getElem?_set_ne (fun z => hkq z.symm)] at hq
      have hne : q.1 ≠ a := fun z => hkq (hD.1 k q0 q _ hq (b_get he) z)
      refine (hP k q hq).kept ?_
      rw [e1]
      exact hk q.1 (hP k q hq).lt (fun z => hne (hA1 _ z))
  have hD1 : va_D A ((X ++ pl).set q0 (a, .inl (cA, 8, .inl (rd μ' 0)))) := hD.set (b_get he)
  rw [b_set he] at hP1 hD1
  obtain ⟨t2, a1, b1⟩ := kk (rd μ' 0) hf ls hl T'.heap (locs ++ L) hP1 hD1 ⟨Nat.le_trans hS.1 (by rw [e1]; exact hz), fun q h1 h2 => by
    rw [e1, hk q (Nat.lt_of_lt_of_le h1 hS.1) (fun z => h2 (by rw [hA1 q z]; exact hea))]
    exact hS.2.1 q h1 h2, fun q hq => by
    rcases List.mem_append.mp hq with h | h
    · exact hS.2.2 q h
    · rw [hA1 _ (hL q h)]; exact hea⟩ T' rfl X'
  exact ⟨t2, g1 t2 a1, b1⟩
end BLD2

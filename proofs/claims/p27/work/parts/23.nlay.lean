/-! THE LAW'S OWN METHODS: they make objects. z: the object that is used now, and the row of longs; both lie in what is new -/
theorem kd_X0 : ∀ k, k < 241 → (hb_t kdX k = none ∨ hb_t kdX k = some .int ∨ hb_t kdX k = some .boolean ∨ hb_t kdX k = some .char ∨ hb_t kdX k = some .long ∨ hb_t kdX k = some (.object RX4) ∨ hb_t kdX k = some (.object RX2)) := by decide +kernel
theorem kd_X : ∀ k, k < 241 → ∀ ty, hb_t kdX k = some ty → ty = .int ∨ ty = .boolean ∨ ty = .char ∨ ty = .long ∨ ty = .object RX4 ∨ ty = .object RX2 := by
  intro k hk ty h
  rcases kd_X0 k hk with g | g | g | g | g | g | g
  all_goals rw [g] at h
  · cases h
  all_goals cases h
  all_goals simp
abbrev lm : Type := hb_m × (Nat → Int64)
abbrev nZ : Type := Option (Nat → Nat) × Option Nat
def nR (D : va_G) (cI cZ cC cJ cY cH : ClassId) (t1 t2 : Nat) (U : State) : Prop := va_K D vwCl (bT cI cZ cC cJ cY cH) U ∧ bAO U ∧ hb_T (tbX t1 t2) (fun q => U.heap.size ≤ q) U U.heap ∧ hb_N nwX U
def nC (p : Program) (s : State) (m : MethodId) (args : Array Value) (meth : Method) (c : Code) (cc : ByteArray) (nL : Nat) (own : String) (Ts : List Cond) (D : va_G) (cI cZ cC cJ cY cH : ClassId) (t1 t2 : Nat) : Prop :=
  (p.tables.exec = Jvm.exec ∧ c.code = cc ∧ c.maxLocals = nL ∧ s.vm.findClass own = some m.cls ∧ ∀ w ∈ Ts, w.before args s = true) ∧ nR D cI cZ cC cJ cY cH t1 t2 s ∧ meth.locks = false
def nO (s : State) (z : nZ) : Prop := (∀ ad, z.1 = some ad → hb_I 241 ad ∧ ∀ i, i < 241 → s.heap.size ≤ ad i) ∧ ∀ a, z.2 = some a → s.heap.size ≤ a ∧ ∀ ad, z.1 = some ad → ∀ i, i < 241 → ad i ≠ a
abbrev nA (a : Nat) (cJ : ClassId) (f : Nat → Int64) : Nat × va_E := (a, .inl (cJ, 64, .inr (.inl f)))
def nW (D : va_G) (cI cZ cC cJ cY cH : ClassId) (z : nZ) (μ : lm) (H : Heap) : Prop := (∀ ad, z.1 = some ad → hb_W vwCl kdX 241 ad D (bD cI cZ cC cJ cY cH kdX) μ.1 H) ∧ ∀ a, z.2 = some a → va_P D vwCl [nA a cJ μ.2] H
def nV (p : Program) (l : Launch) (e : Env) (R : Room) (s : State) (m : MethodId) (args : Array Value) (below : List Frame) (meth : Method) (c : Code) (nL : Nat) (D : va_G) (cI cZ cC cJ cY cH : ClassId) {β : Type} (Q : β → State → Prop) (z : nZ) (cells slots : Nat) (μ : lm) (pc : Nat) (lv : List (Nat × Value)) (st : List Value) (b : Option β) : Prop :=
  ∀ out, b = some out → nO s z → ∀ ls : Array Slot, lv_has ls nL lv → ∀ (H : Heap) (locs : List Loc), nW D cI cZ cC cJ cY cH z μ H → va_S (fun q => s.heap.size ≤ q) s.heap H locs → W p l e R s m args below meth c H locs cells slots (Q out) (F0 m pc ls st)
def nQ (r : Int32) : Array Value → State → Outcome → State → Prop := fun _ s0 oc t => oc = .returned (some (.int r)) ∧ va_F (fun _ => False) s0 t
def bn {β : Type} (x : Option Int32) (K : Int32 → Option β) : Option β := match x with
  | none => none
  | some r => K r
theorem bn_some {β : Type} {r : Int32} {K : Int32 → Option β} : bn (some r) K = K r := rfl
theorem nR_blind {D : va_G} {cI cZ cC cJ cY cH : ClassId} {t1 t2 : Nat} {av : List Value} : FrameBlind (va_Pc av (nR D cI cZ cC cJ cY cH t1 t2)) := by
  intro a U g mk h
  obtain ⟨h1, h2, h3, h4, h5⟩ := h
  exact ⟨h1, va_K.moved (u := U) (U := U.calling g mk a) (Vm.Alike.refl U.vm) h2, bAO.moved (u := U) (U := U.calling g mk a) (Vm.Alike.refl U.vm) h3, hb_T.moved (u := U) (U := U.calling g mk a) (Vm.Alike.refl U.vm) h4, fun q hq => va_Nw.same (u := U) (U := U.calling g mk a) rfl rfl (h5 q hq)⟩
theorem nR_at {D : va_G} {cI cZ cC cJ cY cH : ClassId} {t1 t2 : Nat} {s U : State} {H : Heap} {locs : List Loc} (h : nR D cI cZ cC cJ cY cH t1 t2 s) (hU : U.heap = H) (hWm : s.WarmedH U.vm) (hS : va_S (fun q => s.heap.size ≤ q) s.heap H locs) : nR D cI cZ cC cJ cY cH t1 t2 U := by
  refine ⟨va_K.moved hWm.alike h.1, bAO.moved hWm.alike h.2.1, ?_, h.2.2.2.warm hWm⟩
  rw [hU]
  exact hb_T_mo ((h.2.2.1.kept hS.2.1).moved hWm.alike) (fun q hq => Nat.le_trans hS.1 hq)
theorem nA_kept {D : va_G} {a : Nat} {E : va_E} {H H1 : Heap} (h : va_P D vwCl [(a, E)] H) (hk : H1[a]? = H[a]?) : va_P D vwCl [(a, E)] H1 := by
  refine h.kept (fun k q hq => ?_)
  have h0 : k < 1 := (List.getElem?_eq_some_iff.mp hq).1
  rw [show k = 0 by omega] at hq
  cases hq
  exact hk
theorem nA_lt {D : va_G} {a : Nat} {E : va_E} {H : Heap} (h : va_P D vwCl [(a, E)] H) : a < H.size := (h 0 (a, E) rfl).lt
section NLAY
variable {p : Program} {l : Launch} {e : Env} {R : Room} {s : State} {m : MethodId} {args : Array Value} {below : List Frame} {meth : Method} {c : Code} {cc : ByteArray} {nL : Nat} {own : String} {Ts : List Cond} {D : va_G} {cI cZ cC cJ cY cH : ClassId} {t1 t2 : Nat} {β : Type} {Q : β → State → Prop} {z : nZ} {cells slots : Nat} {μ : lm} {pc : Nat} {lv : List (Nat × Value)} {st : List Value} {b : Option β}
theorem nr_sub {lv' : List (Nat × Value)} (ks : List Nat) (hl : lv_pick lv ks = lv') (k : nV p l e R s m args below meth c nL D cI cZ cC cJ cY cH Q z cells slots μ pc lv' st b) : nV p l e R s m args below meth c nL D cI cZ cC cJ cY cH Q z cells slots μ pc lv st b := fun out ho hO ls h H locs hW hS => k out ho hO ls (lv_sub h ks hl) H locs hW hS
theorem nr_none : nV p l e R s m args below meth c nL D cI cZ cC cJ cY cH Q z cells slots μ pc lv st none := fun out ho => by cases ho
theorem nr_iconst (hC : nC p s m args meth c cc nL own Ts D cI cZ cC cJ cY cH t1 t2) {n : Int} {v : Int32} (hd : decode cc pc = .ok (.iconst n, 1)) (hv : Int32.ofInt n = v) (k : nV p l e R s m args below meth c nL D cI cZ cC cJ cY cH Q z cells slots μ (pc + 1) lv (.int v :: st) b) : nV p l e R s m args below meth c nL D cI cZ cC cJ cY cH Q z cells slots μ pc lv st b := fun out ho hO ls hl H locs hW hS => lv_iconst hC.1.1 hC.1.2.1 hd hv (k out ho hO ls hl H locs hW hS)
theorem nr_bipush (hC : nC p s m args meth c cc nL own Ts D cI cZ cC cJ cY cH t1 t2) {n : Int} {v : Int32} (hd : decode cc pc = .ok (.bipush n, 2)) (hv : (Int8.ofInt n).toInt32 = v) (k : nV p l e R s m args below meth c nL D cI cZ cC cJ cY cH Q z cells slots μ (pc + 2) lv (.int v :: st) b) : nV p l e R s m args below meth c nL D cI cZ cC cJ cY cH Q z cells slots μ pc lv st b := fun out ho hO ls hl H locs hW hS => lv_bipush hC.1.1 hC.1.2.1 hd hv (k out ho hO ls hl H locs hW hS)
theorem nr_sipush (hC : nC p s m args meth c cc nL own Ts D cI cZ cC cJ cY cH t1 t2) {n : Int} {v : Int32} (hd : decode cc pc = .ok (.sipush n, 3)) (hv : (Int16.ofInt n).toInt32 = v) (k : nV p l e R s m args below meth c nL D cI cZ cC cJ cY cH Q z cells slots μ (pc + 3) lv (.int v :: st) b) : nV p l e R s m args below meth c nL D cI cZ cC cJ cY cH Q z cells slots μ pc lv st b := fun out ho hO ls hl H locs hW hS => lv_sipush hC.1.1 hC.1.2.1 hd hv (k out ho hO ls hl H locs hW hS)
theorem nr_lconst (hC : nC p s m args meth c cc nL own Ts D cI cZ cC cJ cY cH t1 t2) {n : Fin 2} {v : Int64} (hd : decode cc pc = .ok (.lconst n, 1)) (hv : Int64.ofNat (n : Nat) = v) (k : nV p l e R s m args below meth c nL D cI cZ cC cJ cY cH Q z cells slots μ (pc + 1) lv (.long v :: st) b) : nV p l e R s m args below meth c nL D cI cZ cC cJ cY cH Q z cells slots μ pc lv st b := fun out ho hO ls hl H locs hW hS => lv_lconst hC.1.1 hC.1.2.1 hd hv (k out ho hO ls hl H locs hW hS)
theorem nr_ldc (hC : nC p s m args meth c cc nL own Ts D cI cZ cC cJ cY cH t1 t2) {index : Nat} {v : Int32} (hd : decode cc pc = .ok (.ldc index, 2)) (hm : Cond.constant own index v ∈ Ts) (k : nV p l e R s m args below meth c nL D cI cZ cC cJ cY cH Q z cells slots μ (pc + 2) lv (.int v :: st) b) : nV p l e R s m args below meth c nL D cI cZ cC cJ cY cH Q z cells slots μ pc lv st b := fun out ho hO ls hl H locs hW hS => lv_ldc hC.1.1 hC.1.2.1 hC.1.2.2.2.1 (hC.1.2.2.2.2 _ hm) hd (k out ho hO ls hl H locs hW hS)
theorem nr_ldc2 (hC : nC p s m args meth c cc nL own Ts D cI cZ cC cJ cY cH t1 t2) {index : Nat} {v : Int64} (hd : decode cc pc = .ok (.ldc2_w index, 3)) (hm : Cond.constantLong own index v ∈ Ts) (k : nV p l e R s m args below meth c nL D cI cZ cC cJ cY cH Q z cells slots μ (pc + 3) lv (.long v :: st) b) : nV p l e R s m args below meth c nL D cI cZ cC cJ cY cH Q z cells slots μ pc lv st b := fun out ho hO ls hl H locs hW hS => lv_ldc2 hC.1.1 hC.1.2.1 hC.1.2.2.2.1 (hC.1.2.2.2.2 _ hm) hd (k out ho hO ls hl H locs hW hS)
theorem nr_iload_n (hC : nC p s m args meth c cc nL own Ts D cI cZ cC cJ cY cH t1 t2) {k : Fin 4} {i : Nat} {x : Int32} (hd : decode cc pc = .ok (.iload_n k, 1)) (hi : (k : Nat) = i) (j : Nat) (hj : lv[j]? = some (i, .int x)) (kk : nV p l e R s m args below meth c nL D cI cZ cC cJ cY cH Q z cells slots μ (pc + 1) lv (.int x :: st) b) : nV p l e R s m args below meth c nL D cI cZ cC cJ cY cH Q z cells slots μ pc lv st b := fun out ho hO ls hl H locs hW hS => lv_iload_n hC.1.1 hC.1.2.1 hd hi (lv_at hl j hj) (kk out ho hO ls hl H locs hW hS)
theorem nr_iload (hC : nC p s m args meth c cc nL own Ts D cI cZ cC cJ cY cH t1 t2) {i : Nat} {x : Int32} (hd : decode cc pc = .ok (.iload i, 2)) (j : Nat) (hj : lv[j]? = some (i, .int x)) (kk : nV p l e R s m args below meth c nL D cI cZ cC cJ cY cH Q z cells slots μ (pc + 2) lv (.int x :: st) b) : nV p l e R s m args below meth c nL D cI cZ cC cJ cY cH Q z cells slots μ pc lv st b := fun out ho hO ls hl H locs hW hS => lv_iload hC.1.1 hC.1.2.1 hd (lv_at hl j hj) (kk out ho hO ls hl H locs hW hS)
theorem nr_istore_n (hC : nC p s m args meth c cc nL own Ts D cI cZ cC cJ cY cH t1 t2) {k : Fin 4} {i : Nat} {x : Int32} {lv' : List (Nat × Value)} (hd : decode cc pc = .ok (.istore_n k, 1)) (hi : (k : Nat) = i) (hn : i < nL) (hl : (i, Value.int x) :: lv.filter (fun q => !(q.1 == i) && !(q.1 + 1 == i && q.2.category == 2)) = lv') (kk : nV p l e R s m args below meth c nL D cI cZ cC cJ cY cH Q z cells slots μ (pc + 1) lv' st b) : nV p l e R s m args below meth c nL D cI cZ cC cJ cY cH Q z cells slots μ pc lv (.int x :: st) b := fun out ho hO ls h H locs hW hS => lv_istore_n hC.1.1 hC.1.2.1 hd hi h hn hl (fun ls' h' => kk out ho hO ls' h' H locs hW hS)
theorem nr_istore (hC : nC p s m args meth c cc nL own Ts D cI cZ cC cJ cY cH t1 t2) {i : Nat} {x : Int32} {lv' : List (Nat × Value)} (hd : decode cc pc = .ok (.istore i, 2))  (hn : i < nL) (hl : (i, Value.int x) :: lv.filter (fun q => !(q.1 == i) && !(q.1 + 1 == i && q.2.category == 2)) = lv') (kk : nV p l e R s m args below meth c nL D cI cZ cC cJ cY cH Q z cells slots μ (pc + 2) lv' st b) : nV p l e R s m args below meth c nL D cI cZ cC cJ cY cH Q z cells slots μ pc lv (.int x :: st) b := fun out ho hO ls h H locs hW hS => lv_istore hC.1.1 hC.1.2.1 hd  h hn hl (fun ls' h' => kk out ho hO ls' h' H locs hW hS)
theorem nr_lload_n (hC : nC p s m args meth c cc nL own Ts D cI cZ cC cJ cY cH t1 t2) {k : Fin 4} {i : Nat} {x : Int64} (hd : decode cc pc = .ok (.lload_n k, 1)) (hi : (k : Nat) = i) (j : Nat) (hj : lv[j]? = some (i, .long x)) (kk : nV p l e R s m args below meth c nL D cI cZ cC cJ cY cH Q z cells slots μ (pc + 1) lv (.long x :: st) b) : nV p l e R s m args below meth c nL D cI cZ cC cJ cY cH Q z cells slots μ pc lv st b := fun out ho hO ls hl H locs hW hS => lv_lload_n hC.1.1 hC.1.2.1 hd hi (lv_at hl j hj) (kk out ho hO ls hl H locs hW hS)
theorem nr_lload (hC : nC p s m args meth c cc nL own Ts D cI cZ cC cJ cY cH t1 t2) {i : Nat} {x : Int64} (hd : decode cc pc = .ok (.lload i, 2)) (j : Nat) (hj : lv[j]? = some (i, .long x)) (kk : nV p l e R s m args below meth c nL D cI cZ cC cJ cY cH Q z cells slots μ (pc + 2) lv (.long x :: st) b) : nV p l e R s m args below meth c nL D cI cZ cC cJ cY cH Q z cells slots μ pc lv st b := fun out ho hO ls hl H locs hW hS => lv_lload hC.1.1 hC.1.2.1 hd (lv_at hl j hj) (kk out ho hO ls hl H locs hW hS)
theorem nr_lstore_n (hC : nC p s m args meth c cc nL own Ts D cI cZ cC cJ cY cH t1 t2) {k : Fin 4} {i : Nat} {x : Int64} {lv' : List (Nat × Value)} (hd : decode cc pc = .ok (.lstore_n k, 1)) (hi : (k : Nat) = i) (hn : i + 1 < nL) (hl : (i, Value.long x) :: lv.filter (fun q => !(q.1 == i) && (!(q.1 == i + 1) && !(q.1 + 1 == i && q.2.category == 2))) = lv') (kk : nV p l e R s m args below meth c nL D cI cZ cC cJ cY cH Q z cells slots μ (pc + 1) lv' st b) : nV p l e R s m args below meth c nL D cI cZ cC cJ cY cH Q z cells slots μ pc lv (.long x :: st) b := fun out ho hO ls h H locs hW hS => lv_lstore_n hC.1.1 hC.1.2.1 hd hi h hn hl (fun ls' h' => kk out ho hO ls' h' H locs hW hS)
theorem nr_lstore (hC : nC p s m args meth c cc nL own Ts D cI cZ cC cJ cY cH t1 t2) {i : Nat} {x : Int64} {lv' : List (Nat × Value)} (hd : decode cc pc = .ok (.lstore i, 2))  (hn : i + 1 < nL) (hl : (i, Value.long x) :: lv.filter (fun q => !(q.1 == i) && (!(q.1 == i + 1) && !(q.1 + 1 == i && q.2.category == 2))) = lv') (kk : nV p l e R s m args below meth c nL D cI cZ cC cJ cY cH Q z cells slots μ (pc + 2) lv' st b) : nV p l e R s m args below meth c nL D cI cZ cC cJ cY cH Q z cells slots μ pc lv (.long x :: st) b := fun out ho hO ls h H locs hW hS => lv_lstore hC.1.1 hC.1.2.1 hd  h hn hl (fun ls' h' => kk out ho hO ls' h' H locs hW hS)
theorem nr_aload_n (hC : nC p s m args meth c cc nL own Ts D cI cZ cC cJ cY cH t1 t2) {k : Fin 4} {i : Nat} {x : Nat} (hd : decode cc pc = .ok (.aload_n k, 1)) (hi : (k : Nat) = i) (j : Nat) (hj : lv[j]? = some (i, .ref x)) (kk : nV p l e R s m args below meth c nL D cI cZ cC cJ cY cH Q z cells slots μ (pc + 1) lv (.ref x :: st) b) : nV p l e R s m args below meth c nL D cI cZ cC cJ cY cH Q z cells slots μ pc lv st b := fun out ho hO ls hl H locs hW hS => lv_aload_n hC.1.1 hC.1.2.1 hd hi (lv_at hl j hj) (kk out ho hO ls hl H locs hW hS)
theorem nr_aload (hC : nC p s m args meth c cc nL own Ts D cI cZ cC cJ cY cH t1 t2) {i : Nat} {x : Nat} (hd : decode cc pc = .ok (.aload i, 2)) (j : Nat) (hj : lv[j]? = some (i, .ref x)) (kk : nV p l e R s m args below meth c nL D cI cZ cC cJ cY cH Q z cells slots μ (pc + 2) lv (.ref x :: st) b) : nV p l e R s m args below meth c nL D cI cZ cC cJ cY cH Q z cells slots μ pc lv st b := fun out ho hO ls hl H locs hW hS => lv_aload hC.1.1 hC.1.2.1 hd (lv_at hl j hj) (kk out ho hO ls hl H locs hW hS)
theorem nr_astore_n (hC : nC p s m args meth c cc nL own Ts D cI cZ cC cJ cY cH t1 t2) {k : Fin 4} {i : Nat} {x : Nat} {lv' : List (Nat × Value)} (hd : decode cc pc = .ok (.astore_n k, 1)) (hi : (k : Nat) = i) (hn : i < nL) (hl : (i, Value.ref x) :: lv.filter (fun q => !(q.1 == i) && !(q.1 + 1 == i && q.2.category == 2)) = lv') (kk : nV p l e R s m args below meth c nL D cI cZ cC cJ cY cH Q z cells slots μ (pc + 1) lv' st b) : nV p l e R s m args below meth c nL D cI cZ cC cJ cY cH Q z cells slots μ pc lv (.ref x :: st) b := fun out ho hO ls h H locs hW hS => lv_astore_n hC.1.1 hC.1.2.1 hd hi h hn hl (fun ls' h' => kk out ho hO ls' h' H locs hW hS)
theorem nr_astore (hC : nC p s m args meth c cc nL own Ts D cI cZ cC cJ cY cH t1 t2) {i : Nat} {x : Nat} {lv' : List (Nat × Value)} (hd : decode cc pc = .ok (.astore i, 2))  (hn : i < nL) (hl : (i, Value.ref x) :: lv.filter (fun q => !(q.1 == i) && !(q.1 + 1 == i && q.2.category == 2)) = lv') (kk : nV p l e R s m args below meth c nL D cI cZ cC cJ cY cH Q z cells slots μ (pc + 2) lv' st b) : nV p l e R s m args below meth c nL D cI cZ cC cJ cY cH Q z cells slots μ pc lv (.ref x :: st) b := fun out ho hO ls h H locs hW hS => lv_astore hC.1.1 hC.1.2.1 hd  h hn hl (fun ls' h' => kk out ho hO ls' h' H locs hW hS)
theorem nr_iinc (hC : nC p s m args meth c cc nL own Ts D cI cZ cC cJ cY cH t1 t2) {i kx : Nat} {n : Int} {x v : Int32} {lv' : List (Nat × Value)} (hd : decode cc pc = .ok (.iinc i n, 3)) (hk : lv[kx]? = some (i, .int x)) (hv : x + Int32.ofInt n = v) (hn : i < nL) (hl : (i, Value.int v) :: lv.filter (fun q => !(q.1 == i) && !(q.1 + 1 == i && q.2.category == 2)) = lv') (kk : nV p l e R s m args below meth c nL D cI cZ cC cJ cY cH Q z cells slots μ (pc + 3) lv' st b) : nV p l e R s m args below meth c nL D cI cZ cC cJ cY cH Q z cells slots μ pc lv st b := fun out ho hO ls h H locs hW hS => lv_iinc hC.1.1 hC.1.2.1 hd h hk hv hn hl (fun ls' h' => kk out ho hO ls' h' H locs hW hS)
theorem nr_iadd (hC : nC p s m args meth c cc nL own Ts D cI cZ cC cJ cY cH t1 t2) {x y : Int32} (hd : decode cc pc = .ok (.iadd, 1))  (k : nV p l e R s m args below meth c nL D cI cZ cC cJ cY cH Q z cells slots μ (pc + 1) lv (.int (x + y) :: st) b) : nV p l e R s m args below meth c nL D cI cZ cC cJ cY cH Q z cells slots μ pc lv (.int y :: .int x :: st) b := fun out ho hO ls hl H locs hW hS => lv_iadd hC.1.1 hC.1.2.1 hd  (k out ho hO ls hl H locs hW hS)
theorem nr_isub (hC : nC p s m args meth c cc nL own Ts D cI cZ cC cJ cY cH t1 t2) {x y : Int32} (hd : decode cc pc = .ok (.isub, 1))  (k : nV p l e R s m args below meth c nL D cI cZ cC cJ cY cH Q z cells slots μ (pc + 1) lv (.int (x - y) :: st) b) : nV p l e R s m args below meth c nL D cI cZ cC cJ cY cH Q z cells slots μ pc lv (.int y :: .int x :: st) b := fun out ho hO ls hl H locs hW hS => lv_isub hC.1.1 hC.1.2.1 hd  (k out ho hO ls hl H locs hW hS)
theorem nr_imul (hC : nC p s m args meth c cc nL own Ts D cI cZ cC cJ cY cH t1 t2) {x y : Int32} (hd : decode cc pc = .ok (.imul, 1))  (k : nV p l e R s m args below meth c nL D cI cZ cC cJ cY cH Q z cells slots μ (pc + 1) lv (.int (x * y) :: st) b) : nV p l e R s m args below meth c nL D cI cZ cC cJ cY cH Q z cells slots μ pc lv (.int y :: .int x :: st) b := fun out ho hO ls hl H locs hW hS => lv_imul hC.1.1 hC.1.2.1 hd  (k out ho hO ls hl H locs hW hS)
theorem nr_iand (hC : nC p s m args meth c cc nL own Ts D cI cZ cC cJ cY cH t1 t2) {x y : Int32} (hd : decode cc pc = .ok (.iand, 1))  (k : nV p l e R s m args below meth c nL D cI cZ cC cJ cY cH Q z cells slots μ (pc + 1) lv (.int (x &&& y) :: st) b) : nV p l e R s m args below meth c nL D cI cZ cC cJ cY cH Q z cells slots μ pc lv (.int y :: .int x :: st) b := fun out ho hO ls hl H locs hW hS => lv_iand hC.1.1 hC.1.2.1 hd  (k out ho hO ls hl H locs hW hS)
theorem nr_irem (hC : nC p s m args meth c cc nL own Ts D cI cZ cC cJ cY cH t1 t2) {x y : Int32} (hd : decode cc pc = .ok (.irem, 1)) (hne : ¬ y = 0) (k : nV p l e R s m args below meth c nL D cI cZ cC cJ cY cH Q z cells slots μ (pc + 1) lv (.int (x - x / y * y) :: st) b) : nV p l e R s m args below meth c nL D cI cZ cC cJ cY cH Q z cells slots μ pc lv (.int y :: .int x :: st) b := fun out ho hO ls hl H locs hW hS => lv_irem hC.1.1 hC.1.2.1 hd hne (k out ho hO ls hl H locs hW hS)
theorem nr_idiv (hC : nC p s m args meth c cc nL own Ts D cI cZ cC cJ cY cH t1 t2) {x y : Int32} (hd : decode cc pc = .ok (.idiv, 1)) (hne : ¬ y = 0) (k : nV p l e R s m args below meth c nL D cI cZ cC cJ cY cH Q z cells slots μ (pc + 1) lv (.int (x / y) :: st) b) : nV p l e R s m args below meth c nL D cI cZ cC cJ cY cH Q z cells slots μ pc lv (.int y :: .int x :: st) b := fun out ho hO ls hl H locs hW hS => lv_idiv hC.1.1 hC.1.2.1 hd hne (k out ho hO ls hl H locs hW hS)
theorem nr_ishr (hC : nC p s m args meth c cc nL own Ts D cI cZ cC cJ cY cH t1 t2) {x y : Int32} (hd : decode cc pc = .ok (.ishr, 1))  (k : nV p l e R s m args below meth c nL D cI cZ cC cJ cY cH Q z cells slots μ (pc + 1) lv (.int (x >>> (y &&& 31)) :: st) b) : nV p l e R s m args below meth c nL D cI cZ cC cJ cY cH Q z cells slots μ pc lv (.int y :: .int x :: st) b := fun out ho hO ls hl H locs hW hS => lv_ishr hC.1.1 hC.1.2.1 hd  (k out ho hO ls hl H locs hW hS)
theorem nr_ixor (hC : nC p s m args meth c cc nL own Ts D cI cZ cC cJ cY cH t1 t2) {x y : Int32} (hd : decode cc pc = .ok (.ixor, 1))  (k : nV p l e R s m args below meth c nL D cI cZ cC cJ cY cH Q z cells slots μ (pc + 1) lv (.int (x ^^^ y) :: st) b) : nV p l e R s m args below meth c nL D cI cZ cC cJ cY cH Q z cells slots μ pc lv (.int y :: .int x :: st) b := fun out ho hO ls hl H locs hW hS => lv_ixor hC.1.1 hC.1.2.1 hd  (k out ho hO ls hl H locs hW hS)
theorem nr_i2l (hC : nC p s m args meth c cc nL own Ts D cI cZ cC cJ cY cH t1 t2) {x : Int32} (hd : decode cc pc = .ok (.i2l, 1))  (k : nV p l e R s m args below meth c nL D cI cZ cC cJ cY cH Q z cells slots μ (pc + 1) lv (.long x.toInt64 :: st) b) : nV p l e R s m args below meth c nL D cI cZ cC cJ cY cH Q z cells slots μ pc lv (.int x :: st) b := fun out ho hO ls hl H locs hW hS => lv_i2l hC.1.1 hC.1.2.1 hd rfl (k out ho hO ls hl H locs hW hS)
theorem nr_i2c (hC : nC p s m args meth c cc nL own Ts D cI cZ cC cJ cY cH t1 t2) {x : Int32} (hd : decode cc pc = .ok (.i2c, 1))  (k : nV p l e R s m args below meth c nL D cI cZ cC cJ cY cH Q z cells slots μ (pc + 1) lv (.int (x.toUInt32 % 65536).toInt32 :: st) b) : nV p l e R s m args below meth c nL D cI cZ cC cJ cY cH Q z cells slots μ pc lv (.int x :: st) b := fun out ho hO ls hl H locs hW hS => lv_i2c hC.1.1 hC.1.2.1 hd rfl (k out ho hO ls hl H locs hW hS)
theorem nr_l2i (hC : nC p s m args meth c cc nL own Ts D cI cZ cC cJ cY cH t1 t2) {x : Int64} (hd : decode cc pc = .ok (.l2i, 1))  (k : nV p l e R s m args below meth c nL D cI cZ cC cJ cY cH Q z cells slots μ (pc + 1) lv (.int x.toInt32 :: st) b) : nV p l e R s m args below meth c nL D cI cZ cC cJ cY cH Q z cells slots μ pc lv (.long x :: st) b := fun out ho hO ls hl H locs hW hS => lv_l2i hC.1.1 hC.1.2.1 hd rfl (k out ho hO ls hl H locs hW hS)
theorem nr_lcmp (hC : nC p s m args meth c cc nL own Ts D cI cZ cC cJ cY cH t1 t2) {x y : Int64} (hd : decode cc pc = .ok (.lcmp, 1))  (k : nV p l e R s m args below meth c nL D cI cZ cC cJ cY cH Q z cells slots μ (pc + 1) lv (.int (lg_cmp x y) :: st) b) : nV p l e R s m args below meth c nL D cI cZ cC cJ cY cH Q z cells slots μ pc lv (.long y :: .long x :: st) b := fun out ho hO ls hl H locs hW hS => W.lcmp hC.1.1 hC.1.2.1 hd  (k out ho hO ls hl H locs hW hS)
theorem nr_dup (hC : nC p s m args meth c cc nL own Ts D cI cZ cC cJ cY cH t1 t2) {va : Value} (hd : decode cc pc = .ok (.dup, 1)) (hv : va.category = 1) (k : nV p l e R s m args below meth c nL D cI cZ cC cJ cY cH Q z cells slots μ (pc + 1) lv (va :: va :: st) b) : nV p l e R s m args below meth c nL D cI cZ cC cJ cY cH Q z cells slots μ pc lv (va :: st) b := fun out ho hO ls hl H locs hW hS => lv_dup hC.1.1 hC.1.2.1 hd hv (k out ho hO ls hl H locs hW hS)
theorem nr_pop (hC : nC p s m args meth c cc nL own Ts D cI cZ cC cJ cY cH t1 t2) {va : Value} (hd : decode cc pc = .ok (.pop, 1)) (hv : va.category = 1) (k : nV p l e R s m args below meth c nL D cI cZ cC cJ cY cH Q z cells slots μ (pc + 1) lv st b) : nV p l e R s m args below meth c nL D cI cZ cC cJ cY cH Q z cells slots μ pc lv (va :: st) b := fun out ho hO ls hl H locs hW hS => lv_pop hC.1.1 hC.1.2.1 hd hv (k out ho hO ls hl H locs hW hS)
theorem nr_goto (hC : nC p s m args meth c cc nL own Ts D cI cZ cC cJ cY cH t1 t2) {off : Int} {tgt : Nat} (hd : decode cc pc = .ok (.goto off, 3)) (ht : (pc : Int) + off = (tgt : Int)) (k : nV p l e R s m args below meth c nL D cI cZ cC cJ cY cH Q z cells slots μ tgt lv st b) : nV p l e R s m args below meth c nL D cI cZ cC cJ cY cH Q z cells slots μ pc lv st b := fun out ho hO ls hl H locs hW hS => lv_goto hC.1.1 hC.1.2.1 hd ht (k out ho hO ls hl H locs hW hS)
theorem nr_icmp_eq (hC : nC p s m args meth c cc nL own Ts D cI cZ cC cJ cY cH t1 t2) {x y : Int32} {off : Int} {tgt : Nat} {b1 b2 : Option β} (hd : decode cc pc = .ok (.if_icmp .eq off, 3)) (ht : (pc : Int) + off = (tgt : Int)) (k1 : x = y → nV p l e R s m args below meth c nL D cI cZ cC cJ cY cH Q z cells slots μ tgt lv st b1) (k2 : ¬ x = y → nV p l e R s m args below meth c nL D cI cZ cC cJ cY cH Q z cells slots μ (pc + 3) lv st b2) : nV p l e R s m args below meth c nL D cI cZ cC cJ cY cH Q z cells slots μ pc lv (.int y :: .int x :: st) (if x = y then b1 else b2) := by
  intro out ho hO ls hl H locs hW hS
  refine lv_icmp_eq hC.1.1 hC.1.2.1 hd ht (fun h => ?_) (fun h => ?_)
  · rw [if_pos h] at ho
    exact k1 h out ho hO ls hl H locs hW hS
  · rw [if_neg h] at ho
    exact k2 h out ho hO ls hl H locs hW hS
theorem nr_if_eq (hC : nC p s m args meth c cc nL own Ts D cI cZ cC cJ cY cH t1 t2) {x : Int32} {off : Int} {tgt : Nat} {b1 b2 : Option β} (hd : decode cc pc = .ok (.ifCond .eq off, 3)) (ht : (pc : Int) + off = (tgt : Int)) (k1 : x = 0 → nV p l e R s m args below meth c nL D cI cZ cC cJ cY cH Q z cells slots μ tgt lv st b1) (k2 : ¬ x = 0 → nV p l e R s m args below meth c nL D cI cZ cC cJ cY cH Q z cells slots μ (pc + 3) lv st b2) : nV p l e R s m args below meth c nL D cI cZ cC cJ cY cH Q z cells slots μ pc lv (.int x :: st) (if x = 0 then b1 else b2) := by
  intro out ho hO ls hl H locs hW hS
  refine lv_if_eq hC.1.1 hC.1.2.1 hd ht (fun h => ?_) (fun h => ?_)
  · rw [if_pos h] at ho
    exact k1 h out ho hO ls hl H locs hW hS
  · rw [if_neg h] at ho
    exact k2 h out ho hO ls hl H locs hW hS
theorem nr_if_eqT (hC : nC p s m args meth c cc nL own Ts D cI cZ cC cJ cY cH t1 t2) {x : Int32} {off : Int} {tgt : Nat} (hd : decode cc pc = .ok (.ifCond .eq off, 3)) (ht : (pc : Int) + off = (tgt : Int)) (h : x = 0) (k : nV p l e R s m args below meth c nL D cI cZ cC cJ cY cH Q z cells slots μ tgt lv st b) : nV p l e R s m args below meth c nL D cI cZ cC cJ cY cH Q z cells slots μ pc lv (.int x :: st) b := fun out ho hO ls hl H locs hW hS => lv_if_eq hC.1.1 hC.1.2.1 hd ht (fun _ => k out ho hO ls hl H locs hW hS) (fun q => absurd h q)
theorem nr_if_eqF (hC : nC p s m args meth c cc nL own Ts D cI cZ cC cJ cY cH t1 t2) {x : Int32} {off : Int} {tgt : Nat} (hd : decode cc pc = .ok (.ifCond .eq off, 3)) (ht : (pc : Int) + off = (tgt : Int)) (h : ¬ x = 0) (k : nV p l e R s m args below meth c nL D cI cZ cC cJ cY cH Q z cells slots μ (pc + 3) lv st b) : nV p l e R s m args below meth c nL D cI cZ cC cJ cY cH Q z cells slots μ pc lv (.int x :: st) b := fun out ho hO ls hl H locs hW hS => lv_if_eq hC.1.1 hC.1.2.1 hd ht (fun q => absurd q h) (fun _ => k out ho hO ls hl H locs hW hS)
theorem nr_icmp_eqT (hC : nC p s m args meth c cc nL own Ts D cI cZ cC cJ cY cH t1 t2) {x y : Int32} {off : Int} {tgt : Nat} (hd : decode cc pc = .ok (.if_icmp .eq off, 3)) (ht : (pc : Int) + off = (tgt : Int)) (h : x = y) (k : nV p l e R s m args below meth c nL D cI cZ cC cJ cY cH Q z cells slots μ tgt lv st b) : nV p l e R s m args below meth c nL D cI cZ cC cJ cY cH Q z cells slots μ pc lv (.int y :: .int x :: st) b := fun out ho hO ls hl H locs hW hS => lv_icmp_eq hC.1.1 hC.1.2.1 hd ht (fun _ => k out ho hO ls hl H locs hW hS) (fun q => absurd h q)
theorem nr_icmp_eqF (hC : nC p s m args meth c cc nL own Ts D cI cZ cC cJ cY cH t1 t2) {x y : Int32} {off : Int} {tgt : Nat} (hd : decode cc pc = .ok (.if_icmp .eq off, 3)) (ht : (pc : Int) + off = (tgt : Int)) (h : ¬ x = y) (k : nV p l e R s m args below meth c nL D cI cZ cC cJ cY cH Q z cells slots μ (pc + 3) lv st b) : nV p l e R s m args below meth c nL D cI cZ cC cJ cY cH Q z cells slots μ pc lv (.int y :: .int x :: st) b := fun out ho hO ls hl H locs hW hS => lv_icmp_eq hC.1.1 hC.1.2.1 hd ht (fun q => absurd q h) (fun _ => k out ho hO ls hl H locs hW hS)
theorem nr_icmp_ne (hC : nC p s m args meth c cc nL own Ts D cI cZ cC cJ cY cH t1 t2) {x y : Int32} {off : Int} {tgt : Nat} {b1 b2 : Option β} (hd : decode cc pc = .ok (.if_icmp .ne off, 3)) (ht : (pc : Int) + off = (tgt : Int)) (k1 : x = y → nV p l e R s m args below meth c nL D cI cZ cC cJ cY cH Q z cells slots μ (pc + 3) lv st b1) (k2 : ¬ x = y → nV p l e R s m args below meth c nL D cI cZ cC cJ cY cH Q z cells slots μ tgt lv st b2) : nV p l e R s m args below meth c nL D cI cZ cC cJ cY cH Q z cells slots μ pc lv (.int y :: .int x :: st) (if x = y then b1 else b2) := by
  intro out ho hO ls hl H locs hW hS
  refine lv_icmp_ne hC.1.1 hC.1.2.1 hd ht (fun h => ?_) (fun h => ?_)
  · rw [if_neg h] at ho
    exact k2 h out ho hO ls hl H locs hW hS
  · rw [if_pos h] at ho
    exact k1 h out ho hO ls hl H locs hW hS
theorem nr_if_ne (hC : nC p s m args meth c cc nL own Ts D cI cZ cC cJ cY cH t1 t2) {x : Int32} {off : Int} {tgt : Nat} {b1 b2 : Option β} (hd : decode cc pc = .ok (.ifCond .ne off, 3)) (ht : (pc : Int) + off = (tgt : Int)) (k1 : x = 0 → nV p l e R s m args below meth c nL D cI cZ cC cJ cY cH Q z cells slots μ (pc + 3) lv st b1) (k2 : ¬ x = 0 → nV p l e R s m args below meth c nL D cI cZ cC cJ cY cH Q z cells slots μ tgt lv st b2) : nV p l e R s m args below meth c nL D cI cZ cC cJ cY cH Q z cells slots μ pc lv (.int x :: st) (if x = 0 then b1 else b2) := by
  intro out ho hO ls hl H locs hW hS
  refine lv_if_ne hC.1.1 hC.1.2.1 hd ht (fun h => ?_) (fun h => ?_)
  · rw [if_neg h] at ho
    exact k2 h out ho hO ls hl H locs hW hS
  · rw [if_pos h] at ho
    exact k1 h out ho hO ls hl H locs hW hS
theorem nr_if_neT (hC : nC p s m args meth c cc nL own Ts D cI cZ cC cJ cY cH t1 t2) {x : Int32} {off : Int} {tgt : Nat} (hd : decode cc pc = .ok (.ifCond .ne off, 3)) (ht : (pc : Int) + off = (tgt : Int)) (h : ¬ x = 0) (k : nV p l e R s m args below meth c nL D cI cZ cC cJ cY cH Q z cells slots μ tgt lv st b) : nV p l e R s m args below meth c nL D cI cZ cC cJ cY cH Q z cells slots μ pc lv (.int x :: st) b := fun out ho hO ls hl H locs hW hS => lv_if_ne hC.1.1 hC.1.2.1 hd ht (fun _ => k out ho hO ls hl H locs hW hS) (fun q => absurd q h)
theorem nr_if_neF (hC : nC p s m args meth c cc nL own Ts D cI cZ cC cJ cY cH t1 t2) {x : Int32} {off : Int} {tgt : Nat} (hd : decode cc pc = .ok (.ifCond .ne off, 3)) (ht : (pc : Int) + off = (tgt : Int)) (h : ¬ ¬ x = 0) (k : nV p l e R s m args below meth c nL D cI cZ cC cJ cY cH Q z cells slots μ (pc + 3) lv st b) : nV p l e R s m args below meth c nL D cI cZ cC cJ cY cH Q z cells slots μ pc lv (.int x :: st) b := fun out ho hO ls hl H locs hW hS => lv_if_ne hC.1.1 hC.1.2.1 hd ht (fun q => absurd q h) (fun _ => k out ho hO ls hl H locs hW hS)
theorem nr_icmp_neT (hC : nC p s m args meth c cc nL own Ts D cI cZ cC cJ cY cH t1 t2) {x y : Int32} {off : Int} {tgt : Nat} (hd : decode cc pc = .ok (.if_icmp .ne off, 3)) (ht : (pc : Int) + off = (tgt : Int)) (h : ¬ x = y) (k : nV p l e R s m args below meth c nL D cI cZ cC cJ cY cH Q z cells slots μ tgt lv st b) : nV p l e R s m args below meth c nL D cI cZ cC cJ cY cH Q z cells slots μ pc lv (.int y :: .int x :: st) b := fun out ho hO ls hl H locs hW hS => lv_icmp_ne hC.1.1 hC.1.2.1 hd ht (fun _ => k out ho hO ls hl H locs hW hS) (fun q => absurd q h)
theorem nr_icmp_neF (hC : nC p s m args meth c cc nL own Ts D cI cZ cC cJ cY cH t1 t2) {x y : Int32} {off : Int} {tgt : Nat} (hd : decode cc pc = .ok (.if_icmp .ne off, 3)) (ht : (pc : Int) + off = (tgt : Int)) (h : ¬ ¬ x = y) (k : nV p l e R s m args below meth c nL D cI cZ cC cJ cY cH Q z cells slots μ (pc + 3) lv st b) : nV p l e R s m args below meth c nL D cI cZ cC cJ cY cH Q z cells slots μ pc lv (.int y :: .int x :: st) b := fun out ho hO ls hl H locs hW hS => lv_icmp_ne hC.1.1 hC.1.2.1 hd ht (fun q => absurd q h) (fun _ => k out ho hO ls hl H locs hW hS)
theorem nr_icmp_lt (hC : nC p s m args meth c cc nL own Ts D cI cZ cC cJ cY cH t1 t2) {x y : Int32} {off : Int} {tgt : Nat} {b1 b2 : Option β} (hd : decode cc pc = .ok (.if_icmp .lt off, 3)) (ht : (pc : Int) + off = (tgt : Int)) (k1 : x < y → nV p l e R s m args below meth c nL D cI cZ cC cJ cY cH Q z cells slots μ tgt lv st b1) (k2 : ¬ x < y → nV p l e R s m args below meth c nL D cI cZ cC cJ cY cH Q z cells slots μ (pc + 3) lv st b2) : nV p l e R s m args below meth c nL D cI cZ cC cJ cY cH Q z cells slots μ pc lv (.int y :: .int x :: st) (if x < y then b1 else b2) := by
  intro out ho hO ls hl H locs hW hS
  refine lv_icmp_lt hC.1.1 hC.1.2.1 hd ht (fun h => ?_) (fun h => ?_)
  · rw [if_pos h] at ho
    exact k1 h out ho hO ls hl H locs hW hS
  · rw [if_neg h] at ho
    exact k2 h out ho hO ls hl H locs hW hS
theorem nr_if_lt (hC : nC p s m args meth c cc nL own Ts D cI cZ cC cJ cY cH t1 t2) {x : Int32} {off : Int} {tgt : Nat} {b1 b2 : Option β} (hd : decode cc pc = .ok (.ifCond .lt off, 3)) (ht : (pc : Int) + off = (tgt : Int)) (k1 : x < 0 → nV p l e R s m args below meth c nL D cI cZ cC cJ cY cH Q z cells slots μ tgt lv st b1) (k2 : ¬ x < 0 → nV p l e R s m args below meth c nL D cI cZ cC cJ cY cH Q z cells slots μ (pc + 3) lv st b2) : nV p l e R s m args below meth c nL D cI cZ cC cJ cY cH Q z cells slots μ pc lv (.int x :: st) (if x < 0 then b1 else b2) := by
  intro out ho hO ls hl H locs hW hS
  refine lv_if_lt hC.1.1 hC.1.2.1 hd ht (fun h => ?_) (fun h => ?_)
  · rw [if_pos h] at ho
    exact k1 h out ho hO ls hl H locs hW hS
  · rw [if_neg h] at ho
    exact k2 h out ho hO ls hl H locs hW hS
theorem nr_if_ltT (hC : nC p s m args meth c cc nL own Ts D cI cZ cC cJ cY cH t1 t2) {x : Int32} {off : Int} {tgt : Nat} (hd : decode cc pc = .ok (.ifCond .lt off, 3)) (ht : (pc : Int) + off = (tgt : Int)) (h : x < 0) (k : nV p l e R s m args below meth c nL D cI cZ cC cJ cY cH Q z cells slots μ tgt lv st b) : nV p l e R s m args below meth c nL D cI cZ cC cJ cY cH Q z cells slots μ pc lv (.int x :: st) b := fun out ho hO ls hl H locs hW hS => lv_if_lt hC.1.1 hC.1.2.1 hd ht (fun _ => k out ho hO ls hl H locs hW hS) (fun q => absurd h q)
theorem nr_if_ltF (hC : nC p s m args meth c cc nL own Ts D cI cZ cC cJ cY cH t1 t2) {x : Int32} {off : Int} {tgt : Nat} (hd : decode cc pc = .ok (.ifCond .lt off, 3)) (ht : (pc : Int) + off = (tgt : Int)) (h : ¬ x < 0) (k : nV p l e R s m args below meth c nL D cI cZ cC cJ cY cH Q z cells slots μ (pc + 3) lv st b) : nV p l e R s m args below meth c nL D cI cZ cC cJ cY cH Q z cells slots μ pc lv (.int x :: st) b := fun out ho hO ls hl H locs hW hS => lv_if_lt hC.1.1 hC.1.2.1 hd ht (fun q => absurd q h) (fun _ => k out ho hO ls hl H locs hW hS)
theorem nr_icmp_ltT (hC : nC p s m args meth c cc nL own Ts D cI cZ cC cJ cY cH t1 t2) {x y : Int32} {off : Int} {tgt : Nat} (hd : decode cc pc = .ok (.if_icmp .lt off, 3)) (ht : (pc : Int) + off = (tgt : Int)) (h : x < y) (k : nV p l e R s m args below meth c nL D cI cZ cC cJ cY cH Q z cells slots μ tgt lv st b) : nV p l e R s m args below meth c nL D cI cZ cC cJ cY cH Q z cells slots μ pc lv (.int y :: .int x :: st) b := fun out ho hO ls hl H locs hW hS => lv_icmp_lt hC.1.1 hC.1.2.1 hd ht (fun _ => k out ho hO ls hl H locs hW hS) (fun q => absurd h q)
theorem nr_icmp_ltF (hC : nC p s m args meth c cc nL own Ts D cI cZ cC cJ cY cH t1 t2) {x y : Int32} {off : Int} {tgt : Nat} (hd : decode cc pc = .ok (.if_icmp .lt off, 3)) (ht : (pc : Int) + off = (tgt : Int)) (h : ¬ x < y) (k : nV p l e R s m args below meth c nL D cI cZ cC cJ cY cH Q z cells slots μ (pc + 3) lv st b) : nV p l e R s m args below meth c nL D cI cZ cC cJ cY cH Q z cells slots μ pc lv (.int y :: .int x :: st) b := fun out ho hO ls hl H locs hW hS => lv_icmp_lt hC.1.1 hC.1.2.1 hd ht (fun q => absurd q h) (fun _ => k out ho hO ls hl H locs hW hS)
theorem nr_icmp_ge (hC : nC p s m args meth c cc nL own Ts D cI cZ cC cJ cY cH t1 t2) {x y : Int32} {off : Int} {tgt : Nat} {b1 b2 : Option β} (hd : decode cc pc = .ok (.if_icmp .ge off, 3)) (ht : (pc : Int) + off = (tgt : Int)) (k1 : y ≤ x → nV p l e R s m args below meth c nL D cI cZ cC cJ cY cH Q z cells slots μ tgt lv st b1) (k2 : ¬ y ≤ x → nV p l e R s m args below meth c nL D cI cZ cC cJ cY cH Q z cells slots μ (pc + 3) lv st b2) : nV p l e R s m args below meth c nL D cI cZ cC cJ cY cH Q z cells slots μ pc lv (.int y :: .int x :: st) (if y ≤ x then b1 else b2) := by
  intro out ho hO ls hl H locs hW hS
  refine lv_icmp_ge hC.1.1 hC.1.2.1 hd ht (fun h => ?_) (fun h => ?_)
  · rw [if_pos h] at ho
    exact k1 h out ho hO ls hl H locs hW hS
  · rw [if_neg h] at ho
    exact k2 h out ho hO ls hl H locs hW hS
theorem nr_if_ge (hC : nC p s m args meth c cc nL own Ts D cI cZ cC cJ cY cH t1 t2) {x : Int32} {off : Int} {tgt : Nat} {b1 b2 : Option β} (hd : decode cc pc = .ok (.ifCond .ge off, 3)) (ht : (pc : Int) + off = (tgt : Int)) (k1 : 0 ≤ x → nV p l e R s m args below meth c nL D cI cZ cC cJ cY cH Q z cells slots μ tgt lv st b1) (k2 : ¬ 0 ≤ x → nV p l e R s m args below meth c nL D cI cZ cC cJ cY cH Q z cells slots μ (pc + 3) lv st b2) : nV p l e R s m args below meth c nL D cI cZ cC cJ cY cH Q z cells slots μ pc lv (.int x :: st) (if 0 ≤ x then b1 else b2) := by
  intro out ho hO ls hl H locs hW hS
  refine lv_if_ge hC.1.1 hC.1.2.1 hd ht (fun h => ?_) (fun h => ?_)
  · rw [if_pos h] at ho
    exact k1 h out ho hO ls hl H locs hW hS
  · rw [if_neg h] at ho
    exact k2 h out ho hO ls hl H locs hW hS
theorem nr_if_geT (hC : nC p s m args meth c cc nL own Ts D cI cZ cC cJ cY cH t1 t2) {x : Int32} {off : Int} {tgt : Nat} (hd : decode cc pc = .ok (.ifCond .ge off, 3)) (ht : (pc : Int) + off = (tgt : Int)) (h : 0 ≤ x) (k : nV p l e R s m args below meth c nL D cI cZ cC cJ cY cH Q z cells slots μ tgt lv st b) : nV p l e R s m args below meth c nL D cI cZ cC cJ cY cH Q z cells slots μ pc lv (.int x :: st) b := fun out ho hO ls hl H locs hW hS => lv_if_ge hC.1.1 hC.1.2.1 hd ht (fun _ => k out ho hO ls hl H locs hW hS) (fun q => absurd h q)
theorem nr_if_geF (hC : nC p s m args meth c cc nL own Ts D cI cZ cC cJ cY cH t1 t2) {x : Int32} {off : Int} {tgt : Nat} (hd : decode cc pc = .ok (.ifCond .ge off, 3)) (ht : (pc : Int) + off = (tgt : Int)) (h : ¬ 0 ≤ x) (k : nV p l e R s m args below meth c nL D cI cZ cC cJ cY cH Q z cells slots μ (pc + 3) lv st b) : nV p l e R s m args below meth c nL D cI cZ cC cJ cY cH Q z cells slots μ pc lv (.int x :: st) b := fun out ho hO ls hl H locs hW hS => lv_if_ge hC.1.1 hC.1.2.1 hd ht (fun q => absurd q h) (fun _ => k out ho hO ls hl H locs hW hS)
theorem nr_icmp_geT (hC : nC p s m args meth c cc nL own Ts D cI cZ cC cJ cY cH t1 t2) {x y : Int32} {off : Int} {tgt : Nat} (hd : decode cc pc = .ok (.if_icmp .ge off, 3)) (ht : (pc : Int) + off = (tgt : Int)) (h : y ≤ x) (k : nV p l e R s m args below meth c nL D cI cZ cC cJ cY cH Q z cells slots μ tgt lv st b) : nV p l e R s m args below meth c nL D cI cZ cC cJ cY cH Q z cells slots μ pc lv (.int y :: .int x :: st) b := fun out ho hO ls hl H locs hW hS => lv_icmp_ge hC.1.1 hC.1.2.1 hd ht (fun _ => k out ho hO ls hl H locs hW hS) (fun q => absurd h q)
theorem nr_icmp_geF (hC : nC p s m args meth c cc nL own Ts D cI cZ cC cJ cY cH t1 t2) {x y : Int32} {off : Int} {tgt : Nat} (hd : decode cc pc = .ok (.if_icmp .ge off, 3)) (ht : (pc : Int) + off = (tgt : Int)) (h : ¬ y ≤ x) (k : nV p l e R s m args below meth c nL D cI cZ cC cJ cY cH Q z cells slots μ (pc + 3) lv st b) : nV p l e R s m args below meth c nL D cI cZ cC cJ cY cH Q z cells slots μ pc lv (.int y :: .int x :: st) b := fun out ho hO ls hl H locs hW hS => lv_icmp_ge hC.1.1 hC.1.2.1 hd ht (fun q => absurd q h) (fun _ => k out ho hO ls hl H locs hW hS)
theorem nr_icmp_gt (hC : nC p s m args meth c cc nL own Ts D cI cZ cC cJ cY cH t1 t2) {x y : Int32} {off : Int} {tgt : Nat} {b1 b2 : Option β} (hd : decode cc pc = .ok (.if_icmp .gt off, 3)) (ht : (pc : Int) + off = (tgt : Int)) (k1 : y < x → nV p l e R s m args below meth c nL D cI cZ cC cJ cY cH Q z cells slots μ tgt lv st b1) (k2 : ¬ y < x → nV p l e R s m args below meth c nL D cI cZ cC cJ cY cH Q z cells slots μ (pc + 3) lv st b2) : nV p l e R s m args below meth c nL D cI cZ cC cJ cY cH Q z cells slots μ pc lv (.int y :: .int x :: st) (if y < x then b1 else b2) := by
  intro out ho hO ls hl H locs hW hS
  refine lv_icmp_gt hC.1.1 hC.1.2.1 hd ht (fun h => ?_) (fun h => ?_)
  · rw [if_pos h] at ho
    exact k1 h out ho hO ls hl H locs hW hS
  · rw [if_neg h] at ho
    exact k2 h out ho hO ls hl H locs hW hS
theorem nr_if_gt (hC : nC p s m args meth c cc nL own Ts D cI cZ cC cJ cY cH t1 t2) {x : Int32} {off : Int} {tgt : Nat} {b1 b2 : Option β} (hd : decode cc pc = .ok (.ifCond .gt off, 3)) (ht : (pc : Int) + off = (tgt : Int)) (k1 : 0 < x → nV p l e R s m args below meth c nL D cI cZ cC cJ cY cH Q z cells slots μ tgt lv st b1) (k2 : ¬ 0 < x → nV p l e R s m args below meth c nL D cI cZ cC cJ cY cH Q z cells slots μ (pc + 3) lv st b2) : nV p l e R s m args below meth c nL D cI cZ cC cJ cY cH Q z cells slots μ pc lv (.int x :: st) (if 0 < x then b1 else b2) := by
  intro out ho hO ls hl H locs hW hS
  refine lv_if_gt hC.1.1 hC.1.2.1 hd ht (fun h => ?_) (fun h => ?_)
  · rw [if_pos h] at ho
    exact k1 h out ho hO ls hl H locs hW hS
  · rw [if_neg h] at ho
    exact k2 h out ho hO ls hl H locs hW hS
theorem nr_if_gtT (hC : nC p s m args meth c cc nL own Ts D cI cZ cC cJ cY cH t1 t2) {x : Int32} {off : Int} {tgt : Nat} (hd : decode cc pc = .ok (.ifCond .gt off, 3)) (ht : (pc : Int) + off = (tgt : Int)) (h : 0 < x) (k : nV p l e R s m args below meth c nL D cI cZ cC cJ cY cH Q z cells slots μ tgt lv st b) : nV p l e R s m args below meth c nL D cI cZ cC cJ cY cH Q z cells slots μ pc lv (.int x :: st) b := fun out ho hO ls hl H locs hW hS => lv_if_gt hC.1.1 hC.1.2.1 hd ht (fun _ => k out ho hO ls hl H locs hW hS) (fun q => absurd h q)
theorem nr_if_gtF (hC : nC p s m args meth c cc nL own Ts D cI cZ cC cJ cY cH t1 t2) {x : Int32} {off : Int} {tgt : Nat} (hd : decode cc pc = .ok (.ifCond .gt off, 3)) (ht : (pc : Int) + off = (tgt : Int)) (h : ¬ 0 < x) (k : nV p l e R s m args below meth c nL D cI cZ cC cJ cY cH Q z cells slots μ (pc + 3) lv st b) : nV p l e R s m args below meth c nL D cI cZ cC cJ cY cH Q z cells slots μ pc lv (.int x :: st) b := fun out ho hO ls hl H locs hW hS => lv_if_gt hC.1.1 hC.1.2.1 hd ht (fun q => absurd q h) (fun _ => k out ho hO ls hl H locs hW hS)
theorem nr_icmp_gtT (hC : nC p s m args meth c cc nL own Ts D cI cZ cC cJ cY cH t1 t2) {x y : Int32} {off : Int} {tgt : Nat} (hd : decode cc pc = .ok (.if_icmp .gt off, 3)) (ht : (pc : Int) + off = (tgt : Int)) (h : y < x) (k : nV p l e R s m args below meth c nL D cI cZ cC cJ cY cH Q z cells slots μ tgt lv st b) : nV p l e R s m args below meth c nL D cI cZ cC cJ cY cH Q z cells slots μ pc lv (.int y :: .int x :: st) b := fun out ho hO ls hl H locs hW hS => lv_icmp_gt hC.1.1 hC.1.2.1 hd ht (fun _ => k out ho hO ls hl H locs hW hS) (fun q => absurd h q)
theorem nr_icmp_gtF (hC : nC p s m args meth c cc nL own Ts D cI cZ cC cJ cY cH t1 t2) {x y : Int32} {off : Int} {tgt : Nat} (hd : decode cc pc = .ok (.if_icmp .gt off, 3)) (ht : (pc : Int) + off = (tgt : Int)) (h : ¬ y < x) (k : nV p l e R s m args below meth c nL D cI cZ cC cJ cY cH Q z cells slots μ (pc + 3) lv st b) : nV p l e R s m args below meth c nL D cI cZ cC cJ cY cH Q z cells slots μ pc lv (.int y :: .int x :: st) b := fun out ho hO ls hl H locs hW hS => lv_icmp_gt hC.1.1 hC.1.2.1 hd ht (fun q => absurd q h) (fun _ => k out ho hO ls hl H locs hW hS)
theorem nr_icmp_le (hC : nC p s m args meth c cc nL own Ts D cI cZ cC cJ cY cH t1 t2) {x y : Int32} {off : Int} {tgt : Nat} {b1 b2 : Option β} (hd : decode cc pc = .ok (.if_icmp .le off, 3)) (ht : (pc : Int) + off = (tgt : Int)) (k1 : x ≤ y → nV p l e R s m args below meth c nL D cI cZ cC cJ cY cH Q z cells slots μ tgt lv st b1) (k2 : ¬ x ≤ y → nV p l e R s m args below meth c nL D cI cZ cC cJ cY cH Q z cells slots μ (pc + 3) lv st b2) : nV p l e R s m args below meth c nL D cI cZ cC cJ cY cH Q z cells slots μ pc lv (.int y :: .int x :: st) (if x ≤ y then b1 else b2) := by
  intro out ho hO ls hl H locs hW hS
  refine lv_icmp_le hC.1.1 hC.1.2.1 hd ht (fun h => ?_) (fun h => ?_)
  · rw [if_pos h] at ho
    exact k1 h out ho hO ls hl H locs hW hS
  · rw [if_neg h] at ho
    exact k2 h out ho hO ls hl H locs hW hS
theorem nr_if_le (hC : nC p s m args meth c cc nL own Ts D cI cZ cC cJ cY cH t1 t2) {x : Int32} {off : Int} {tgt : Nat} {b1 b2 : Option β} (hd : decode cc pc = .ok (.ifCond .le off, 3)) (ht : (pc : Int) + off = (tgt : Int)) (k1 : x ≤ 0 → nV p l e R s m args below meth c nL D cI cZ cC cJ cY cH Q z cells slots μ tgt lv st b1) (k2 : ¬ x ≤ 0 → nV p l e R s m args below meth c nL D cI cZ cC cJ cY cH Q z cells slots μ (pc + 3) lv st b2) : nV p l e R s m args below meth c nL D cI cZ cC cJ cY cH Q z cells slots μ pc lv (.int x :: st) (if x ≤ 0 then b1 else b2) := by
  intro out ho hO ls hl H locs hW hS
  refine lv_if_le hC.1.1 hC.1.2.1 hd ht (fun h => ?_) (fun h => ?_)
  · rw [if_pos h] at ho
    exact k1 h out ho hO ls hl H locs hW hS
  · rw [if_neg h] at ho
    exact k2 h out ho hO ls hl H locs hW hS
theorem nr_if_leT (hC : nC p s m args meth c cc nL own Ts D cI cZ cC cJ cY cH t1 t2) {x : Int32} {off : Int} {tgt : Nat} (hd : decode cc pc = .ok (.ifCond .le off, 3)) (ht : (pc : Int) + off = (tgt : Int)) (h : x ≤ 0) (k : nV p l e R s m args below meth c nL D cI cZ cC cJ cY cH Q z cells slots μ tgt lv st b) : nV p l e R s m args below meth c nL D cI cZ cC cJ cY cH Q z cells slots μ pc lv (.int x :: st) b := fun out ho hO ls hl H locs hW hS => lv_if_le hC.1.1 hC.1.2.1 hd ht (fun _ => k out ho hO ls hl H locs hW hS) (fun q => absurd h q)
theorem nr_if_leF (hC : nC p s m args meth c cc nL own Ts D cI cZ cC cJ cY cH t1 t2) {x : Int32} {off : Int} {tgt : Nat} (hd : decode cc pc = .ok (.ifCond .le off, 3)) (ht : (pc : Int) + off = (tgt : Int)) (h : ¬ x ≤ 0) (k : nV p l e R s m args below meth c nL D cI cZ cC cJ cY cH Q z cells slots μ (pc + 3) lv st b) : nV p l e R s m args below meth c nL D cI cZ cC cJ cY cH Q z cells slots μ pc lv (.int x :: st) b := fun out ho hO ls hl H locs hW hS => lv_if_le hC.1.1 hC.1.2.1 hd ht (fun q => absurd q h) (fun _ => k out ho hO ls hl H locs hW hS)
theorem nr_icmp_leT (hC : nC p s m args meth c cc nL own Ts D cI cZ cC cJ cY cH t1 t2) {x y : Int32} {off : Int} {tgt : Nat} (hd : decode cc pc = .ok (.if_icmp .le off, 3)) (ht : (pc : Int) + off = (tgt : Int)) (h : x ≤ y) (k : nV p l e R s m args below meth c nL D cI cZ cC cJ cY cH Q z cells slots μ tgt lv st b) : nV p l e R s m args below meth c nL D cI cZ cC cJ cY cH Q z cells slots μ pc lv (.int y :: .int x :: st) b := fun out ho hO ls hl H locs hW hS => lv_icmp_le hC.1.1 hC.1.2.1 hd ht (fun _ => k out ho hO ls hl H locs hW hS) (fun q => absurd h q)
theorem nr_icmp_leF (hC : nC p s m args meth c cc nL own Ts D cI cZ cC cJ cY cH t1 t2) {x y : Int32} {off : Int} {tgt : Nat} (hd : decode cc pc = .ok (.if_icmp .le off, 3)) (ht : (pc : Int) + off = (tgt : Int)) (h : ¬ x ≤ y) (k : nV p l e R s m args below meth c nL D cI cZ cC cJ cY cH Q z cells slots μ (pc + 3) lv st b) : nV p l e R s m args below meth c nL D cI cZ cC cJ cY cH Q z cells slots μ pc lv (.int y :: .int x :: st) b := fun out ho hO ls hl H locs hW hS => lv_icmp_le hC.1.1 hC.1.2.1 hd ht (fun q => absurd q h) (fun _ => k out ho hO ls hl H locs hW hS)
end NLAY
section NLS
variable {p : Program} {l : Launch} {e : Env} {R : Room} {s : State} {m : MethodId} {args : Array Value} {below : List Frame} {meth : Method} {c : Code} {cc : ByteArray} {nL : Nat} {own : String} {Ts : List Cond} {kd : Nat → hb_k} {N : Nat} {ad : Nat → Nat} {D : va_G} {dA : Nat → ClassId} {tb : List hb_tb} {nw : List hb_nw} {Q : State → Prop} {μ : hb_m} {cells slots pc : Nat} {st : List Value}
theorem l_callS (hC : p.tables.exec = Jvm.exec ∧ c.code = cc ∧ c.maxLocals = nL ∧ s.vm.findClass own = some m.cls ∧ ∀ w ∈ Ts, w.before args s = true) {γ : Type} {rv : γ → Option Value} {mu : γ → hb_m} {o : γ} {y : MethodName} {bytes : ByteArray} {maxL n index : Nat} {ret : Option FieldType} {ws : List Cond} {rm : Room} {As : List Value} (hM : hb_M (hb_Q vwCl kd N ad D dA rv mu) l y ws rm vwCl kd N ad D dA tb nw As μ (some o)) (hw : CallB R s args own index y bytes maxL ret ws rm 0 0 n ∧ (Cond.static y).before args s = true) (hn : As.length = n) (hroom : (st.map fun v => v.category).sum ≤ 8) (hd : decode cc pc = .ok (.invokestatic index, 3)) (hge : ∀ i, i < N → s.heap.size ≤ ad i) (hK : hb_K vwCl kd N D dA s) (hT : hb_T tb (fun q => s.heap.size ≤ q) s s.heap) (hNw : hb_N nw s) (hcs : cells ≤ R.cells ∧ slots ≤ R.slots) {ls : Array Slot} (hl : ls.size = nL) {H : Heap} {locs : List Loc} (hW : hb_W vwCl kd N ad D dA μ H) (hS : va_S (fun q => s.heap.size ≤ q) s.heap H locs)
    (kk : ∀ (H1 : Heap) (locs1 : List Loc), hb_W vwCl kd N ad D dA (mu o) H1 → (∀ q : Nat, q < H.size → ¬ hb_A N ad q → H1[q]? = H[q]?) → va_S (fun q => s.heap.size ≤ q) s.heap H1 locs1 → W p l e R s m args below meth c H1 locs1 cells slots Q (F0 m (pc + 3) ls ((rv o).toList ++ st))) : W p l e R s m args below meth c H locs cells slots Q (F0 m pc ls (As.reverse ++ st)) := by
  have hAA : ∀ q, hb_A N ad q → s.heap.size ≤ q := fun q ⟨i, hi, hq⟩ => by rw [hq]; exact hge i hi
  have hRR : ∀ U : State, U.heap = H → s.WarmedH U.vm → hb_R vwCl kd N ad D dA tb nw μ U := by
    intro U hU hWm
    refine ⟨by rw [hU]; exact hW, hK.moved hWm.alike, ?_, hNw.warm hWm⟩
    rw [hU]
    exact hb_T_mo ((hT.kept hS.2.1).moved hWm.alike) hAA
  have hrun := va_runS (l := l) (e := e) (meth := meth) (below := below) (H := H) (locs := locs) (cells := cells) (slots := slots) (As := As) (rest := st) (g := F0 m pc ls (As.reverse ++ st)) hC (hM _ rfl) hw ⟨hb_blind, fun U hU hWm => ⟨rfl, hRR U hU hWm⟩⟩ rfl hn hl rfl (lv_room hroom) hd ⟨hcs.1, hcs.2⟩
  intro T hT0 X0
  obtain ⟨v1, st₀, t, T', L, h0, X', hL, e1, e2, ⟨⟨hv, hW1⟩, hz, hk1⟩, g1⟩ := hrun T hT0 X0
  cases hv
  rw [h0] at hz hk1
  obtain ⟨t2, a1, b1⟩ := kk T'.heap (locs ++ L) (by rw [e1]; exact hW1) (fun q h1 h2 => by rw [e1]; exact hk1 q h1 h2) ⟨Nat.le_trans hS.1 (by rw [e1]; exact hz), fun q h1 h2 => by
    rw [e1, hk1 q (Nat.lt_of_lt_of_le h1 hS.1) (fun z => h2 (hAA q z))]
    exact hS.2.1 q h1 h2, fun q hq => by
    rcases List.mem_append.mp hq with h | h
    · exact hS.2.2 q h
    · exact hAA _ (hL q h)⟩ T' rfl X'
  exact ⟨t2, g1 t2 a1, b1⟩
/-- a call of a method that leaves all that was -/
theorem l_callN (hC : p.tables.exec = Jvm.exec ∧ c.code = cc ∧ c.maxLocals = nL ∧ s.vm.findClass own = some m.cls ∧ ∀ w ∈ Ts, w.before args s = true) {P : State → Prop} {r : Int32} {y : MethodName} {bytes : ByteArray} {maxL n index mc ms : Nat} {ret : Option FieldType} {ws : List Cond} {rm : Room} {As : List Value} (hM : Met l y ws rm (va_Pc As P) (nQ r) mc ms (fun _ => False)) (hbl : FrameBlind (va_Pc As P)) (hw : CallB R s args own index y bytes maxL ret ws rm mc ms n ∧ (Cond.static y).before args s = true) (hn : As.length = n) (hroom : (st.map fun v => v.category).sum ≤ 8) (hd : decode cc pc = .ok (.invokestatic index, 3)) (hcs : cells + mc ≤ R.cells ∧ slots + ms ≤ R.slots) {ls : Array Slot} (hl : ls.size = nL) {H : Heap} {locs : List Loc} (hP : ∀ U : State, U.heap = H → s.WarmedH U.vm → P U) (hS : va_S (fun q => s.heap.size ≤ q) s.heap H locs)
    (kk : ∀ (H1 : Heap) (locs1 : List Loc), (∀ q : Nat, q < H.size → H1[q]? = H[q]?) → va_S (fun q => s.heap.size ≤ q) s.heap H1 locs1 → W p l e R s m args below meth c H1 locs1 (cells + mc) (slots + ms) Q (F0 m (pc + 3) ls (.int r :: st))) : W p l e R s m args below meth c H locs cells slots Q (F0 m pc ls (As.reverse ++ st)) := by
  have hrun := va_runS (l := l) (e := e) (meth := meth) (below := below) (H := H) (locs := locs) (cells := cells) (slots := slots) (As := As) (rest := st) (g := F0 m pc ls (As.reverse ++ st)) hC hM hw ⟨hbl, fun U hU hWm => ⟨rfl, hP U hU hWm⟩⟩ rfl hn hl rfl (lv_room hroom) hd hcs
  intro T hT0 X0
  obtain ⟨v1, st₀, t, T', L, h0, X', hL, e1, e2, ⟨hv, hz, hk1⟩, g1⟩ := hrun T hT0 X0
  cases hv
  rw [h0] at hz hk1
  obtain ⟨t2, a1, b1⟩ := kk T'.heap (locs ++ L) (fun q h1 => by rw [e1]; exact hk1 q h1 (fun h => h)) ⟨Nat.le_trans hS.1 (by rw [e1]; exact hz), fun q h1 h2 => by
    rw [e1, hk1 q (Nat.lt_of_lt_of_le h1 hS.1) (fun h => h)]
    exact hS.2.1 q h1 h2, fun q hq => by
    rcases List.mem_append.mp hq with h | h
    · exact hS.2.2 q h
    · exact (hL q h).elim⟩ T' rfl X'
  exact ⟨t2, g1 t2 a1, b1⟩
end NLS
section NLAY2
variable {p : Program} {l : Launch} {e : Env} {R : Room} {s : State} {m : MethodId} {args : Array Value} {below : List Frame} {meth : Method} {c : Code} {cc : ByteArray} {nL : Nat} {own : String} {Ts : List Cond} {D : va_G} {cI cZ cC cJ cY cH : ClassId} {t1 t2 : Nat} {β : Type} {Q : β → State → Prop} {z : nZ} {cells slots : Nat} {μ : lm} {pc : Nat} {lv : List (Nat × Value)} {st : List Value} {b : Option β}
theorem nr_callVi (hC : nC p s m args meth c cc nL own Ts D cI cZ cC cJ cY cH t1 t2) {stk : List Value} {y : MethodName} {bytes : ByteArray} {maxL n index : Nat} {ret : Option FieldType} {ws : List Cond} {rm : Room} {As : List Value} {ad : Nat → Nat} {wa : Option Nat} {fb : Option (Int32 × hb_m)} {K : Int32 → hb_m → Option β} (hs : stk = As.reverse ++ .ref (ad 228) :: st) (hM : hb_I 241 ad → hb_M (hb_Qi vwCl kdX 241 ad D (bD cI cZ cC cJ cY cH kdX)) l y ws rm vwCl kdX 241 ad D (bD cI cZ cC cJ cY cH kdX) (tbX t1 t2) nwX (.ref (ad 228) :: As) μ.1 fb) (hw : CallW R s args own RX5 index y bytes maxL ret ws rm 0 0 n) (hn : As.length = n) (hroom : (st.map fun v => v.category).sum ≤ 8) (hcs : cells ≤ R.cells ∧ slots ≤ R.slots) (hd : decode cc pc = .ok (.invokevirtual index, 3)) (kk : ∀ (r : Int32) (m1 : hb_m), nV p l e R s m args below meth c nL D cI cZ cC cJ cY cH Q (some ad, wa) cells slots (m1, μ.2) (pc + 3) lv (.int r :: st) (K r m1)) : nV p l e R s m args below meth c nL D cI cZ cC cJ cY cH Q (some ad, wa) cells slots μ pc lv stk (bi fb K) := by
  subst hs
  intro out ho hO ls hl H locs hW hS
  cases hfb : fb with
  | none => rw [hfb] at ho; cases ho
  | some o =>
    rw [hfb] at ho
    obtain ⟨hI, hge⟩ := hO.1 ad rfl
    have hMM := hM hI
    rw [hfb] at hMM
    obtain ⟨o1, o2⟩ := o
    exact l_call hC.1 hMM hw kx228 rfl rfl hn hroom hd hge (bT_kd hC.2.1.1 kd_X) hC.2.1.2.2.1 hC.2.1.2.2.2 hcs hl.1 (hW.1 ad rfl) hS (fun H1 locs1 hW1 hk1 hS1 => kk o1 o2 out ho hO ls hl H1 locs1 ⟨fun ad' e9 => by cases e9; exact hW1, fun a e9 => by
      refine nA_kept (hW.2 a e9) (hk1 a (nA_lt (hW.2 a e9)) ?_)
      rintro ⟨i, hi, e8⟩
      exact (hO.2 a e9).2 ad rfl i hi e8.symm⟩ hS1)
theorem nr_callSi (hC : nC p s m args meth c cc nL own Ts D cI cZ cC cJ cY cH t1 t2) {stk : List Value} {y : MethodName} {bytes : ByteArray} {maxL n index : Nat} {ret : Option FieldType} {ws : List Cond} {rm : Room} {As : List Value} {ad : Nat → Nat} {wa : Option Nat} {fb : Option (Int32 × hb_m)} {K : Int32 → hb_m → Option β} (hs : stk = As.reverse ++ st) (hM : hb_I 241 ad → hb_M (hb_Qi vwCl kdX 241 ad D (bD cI cZ cC cJ cY cH kdX)) l y ws rm vwCl kdX 241 ad D (bD cI cZ cC cJ cY cH kdX) (tbX t1 t2) nwX As μ.1 fb) (hw : CallB R s args own index y bytes maxL ret ws rm 0 0 n ∧ (Cond.static y).before args s = true) (hn : As.length = n) (hroom : (st.map fun v => v.category).sum ≤ 8) (hcs : cells ≤ R.cells ∧ slots ≤ R.slots) (hd : decode cc pc = .ok (.invokestatic index, 3)) (kk : ∀ (r : Int32) (m1 : hb_m), nV p l e R s m args below meth c nL D cI cZ cC cJ cY cH Q (some ad, wa) cells slots (m1, μ.2) (pc + 3) lv (.int r :: st) (K r m1)) : nV p l e R s m args below meth c nL D cI cZ cC cJ cY cH Q (some ad, wa) cells slots μ pc lv stk (bi fb K) := by
  subst hs
  intro out ho hO ls hl H locs hW hS
  cases hfb : fb with
  | none => rw [hfb] at ho; cases ho
  | some o =>
    rw [hfb] at ho
    obtain ⟨hI, hge⟩ := hO.1 ad rfl
    have hMM := hM hI
    rw [hfb] at hMM
    exact l_callS hC.1 hMM hw hn hroom hd hge (bT_kd hC.2.1.1 kd_X) hC.2.1.2.2.1 hC.2.1.2.2.2 hcs hl.1 (hW.1 ad rfl) hS (fun H1 locs1 hW1 hk1 hS1 => kk o.1 o.2 out ho hO ls hl H1 locs1 ⟨fun ad' e9 => by cases e9; exact hW1, fun a e9 => by
      refine nA_kept (hW.2 a e9) (hk1 a (nA_lt (hW.2 a e9)) ?_)
      rintro ⟨i, hi, e8⟩
      exact (hO.2 a e9).2 ad rfl i hi e8.symm⟩ hS1)
theorem nr_callSl (hC : nC p s m args meth c cc nL own Ts D cI cZ cC cJ cY cH t1 t2) {stk : List Value} {y : MethodName} {bytes : ByteArray} {maxL n index : Nat} {ret : Option FieldType} {ws : List Cond} {rm : Room} {As : List Value} {ad : Nat → Nat} {wa : Option Nat} {fb : Option (Int64 × hb_m)} {K : Int64 → hb_m → Option β} (hs : stk = As.reverse ++ st) (hM : hb_I 241 ad → hb_M (hb_Ql vwCl kdX 241 ad D (bD cI cZ cC cJ cY cH kdX)) l y ws rm vwCl kdX 241 ad D (bD cI cZ cC cJ cY cH kdX) (tbX t1 t2) nwX As μ.1 fb) (hw : CallB R s args own index y bytes maxL ret ws rm 0 0 n ∧ (Cond.static y).before args s = true) (hn : As.length = n) (hroom : (st.map fun v => v.category).sum ≤ 8) (hcs : cells ≤ R.cells ∧ slots ≤ R.slots) (hd : decode cc pc = .ok (.invokestatic index, 3)) (kk : ∀ (r : Int64) (m1 : hb_m), nV p l e R s m args below meth c nL D cI cZ cC cJ cY cH Q (some ad, wa) cells slots (m1, μ.2) (pc + 3) lv (.long r :: st) (K r m1)) : nV p l e R s m args below meth c nL D cI cZ cC cJ cY cH Q (some ad, wa) cells slots μ pc lv stk (bl fb K) := by
  subst hs
  intro out ho hO ls hl H locs hW hS
  cases hfb : fb with
  | none => rw [hfb] at ho; cases ho
  | some o =>
    rw [hfb] at ho
    obtain ⟨hI, hge⟩ := hO.1 ad rfl
    have hMM := hM hI
    rw [hfb] at hMM
    exact l_callS hC.1 hMM hw hn hroom hd hge (bT_kd hC.2.1.1 kd_X) hC.2.1.2.2.1 hC.2.1.2.2.2 hcs hl.1 (hW.1 ad rfl) hS (fun H1 locs1 hW1 hk1 hS1 => kk o.1 o.2 out ho hO ls hl H1 locs1 ⟨fun ad' e9 => by cases e9; exact hW1, fun a e9 => by
      refine nA_kept (hW.2 a e9) (hk1 a (nA_lt (hW.2 a e9)) ?_)
      rintro ⟨i, hi, e8⟩
      exact (hO.2 a e9).2 ad rfl i hi e8.symm⟩ hS1)
theorem nr_callN (hC : nC p s m args meth c cc nL own Ts D cI cZ cC cJ cY cH t1 t2) {P : State → Prop} {stk : List Value} {y : MethodName} {bytes : ByteArray} {maxL n index mc ms : Nat} {ret : Option FieldType} {ws : List Cond} {rm : Room} {As : List Value} {fb : Option Int32} {K : Int32 → Option β} (hs : stk = As.reverse ++ st) (hM : ∀ r, fb = some r → Met l y ws rm (va_Pc As P) (nQ r) mc ms (fun _ => False)) (hbl : FrameBlind (va_Pc As P)) (hP : ∀ (U : State) (H : Heap) (locs : List Loc), U.heap = H → s.WarmedH U.vm → va_S (fun q => s.heap.size ≤ q) s.heap H locs → P U) (hw : CallB R s args own index y bytes maxL ret ws rm mc ms n ∧ (Cond.static y).before args s = true) (hn : As.length = n) (hroom : (st.map fun v => v.category).sum ≤ 8) (hcs : cells + mc ≤ R.cells ∧ slots + ms ≤ R.slots) (hd : decode cc pc = .ok (.invokestatic index, 3)) (kk : ∀ r : Int32, nV p l e R s m args below meth c nL D cI cZ cC cJ cY cH Q z (cells + mc) (slots + ms) μ (pc + 3) lv (.int r :: st) (K r)) : nV p l e R s m args below meth c nL D cI cZ cC cJ cY cH Q z cells slots μ pc lv stk (bn fb K) := by
  subst hs
  intro out ho hO ls hl H locs hW hS
  cases hfb : fb with
  | none => rw [hfb] at ho; cases ho
  | some r =>
    rw [hfb] at ho
    exact l_callN hC.1 (hM r hfb) hbl hw hn hroom hd hcs hl.1 (fun U hU hWm => hP U H locs hU hWm hS) hS (fun H1 locs1 hk1 hS1 => kk r out ho hO ls hl H1 locs1 ⟨fun ad' e9 k q hq => (hW.1 ad' e9 k q hq).kept (hk1 _ (hW.1 ad' e9 k q hq).lt), fun a e9 => nA_kept (hW.2 a e9) (hk1 a (nA_lt (hW.2 a e9)))⟩ hS1)
theorem nr_new (hC : nC p s m args meth c cc nL own Ts D cI cZ cC cJ cY cH t1 t2) {i1 i2 : Nat} (hin : ∀ w ∈ u_ws RX5 TX5 6, w ∈ Ts) (h1 : Cond.classLink own i1 RX5 ∈ Ts) (h2 : Cond.instantiable RX5 6 ∈ Ts) (h3 : Cond.initialized RX5 ∈ Ts) (cw : CallB R s args own i2 yX5_init cX5_init 1 none wsX5_init rkX5 240 3181 0 ∧ yX5_init.name = "<init>" ∧ (Cond.instanceMethod yX5_init).before args s = true) (hcells : cells + 241 ≤ R.cells) (hslots : slots + 3187 ≤ R.slots) (hroom : (st.map fun v => v.category).sum ≤ 7) (d0 : decode cc pc = .ok (.new i1, 3)) (d1 : decode cc (pc + 3) = .ok (.dup, 1)) (d2 : decode cc (pc + 4) = .ok (.invokespecial i2, 3)) (kk : ∀ ad : Nat → Nat, nV p l e R s m args below meth c nL D cI cZ cC cJ cY cH Q (some ad, none) (cells + 241) (slots + 3187) (mz, μ.2) (pc + 7) lv (.ref (ad 228) :: st) b) : nV p l e R s m args below meth c nL D cI cZ cC cJ cY cH Q z cells slots μ pc lv st b := by
  intro out ho hO ls hl H locs hW hS
  have hA : ∀ q : Nat, s.heap.size ≤ q → (fun q : Nat => s.heap.size ≤ q) q := fun _ h => h
  have hP : va_P D vwCl [] H := fun k q h => by simp at h
  have hD : va_D (fun q : Nat => s.heap.size ≤ q) [] := ⟨fun i j p q h => by simp at h, fun k q h => by simp at h⟩
  have hK : va_K D vwCl [] s := ⟨hC.2.1.1.1, fun k q h => by simp at h⟩
  refine va_new (ci := 5) (fs := [.null, .null, .int 0, .null, .null, .null]) (C := RX5) (T := TX5) (N := 6) hC.1.1 hC.1.2.1 hC.1.2.2.2.2 hin tyX5 tyX5_ok hC.1.2.2.2.1 (hC.1.2.2.2.2 _ h1) (hC.1.2.2.2.2 _ h2) (hC.1.2.2.2.2 _ h3) hK hP hD hS hA rfl vVX5 (by omega) (by omega) d0 (fun q0 H1 hP1 hD1 hS1 => ?_)
  refine lv_dup hC.1.1 hC.1.2.1 d1 rfl ?_
  have hF := va_free (wc := [((q0, .inr (5, [.null, .null, .int 0, .null, .null, .null])) : Nat × va_E)]) hD1 hS1 hA [0] rfl
  refine va_callv (va_runI (As := []) (rest := .ref q0 :: st) hC.1 (kX5 (l := l) (D := D) (cI := cI) (cZ := cZ) (cC := cC) (cJ := cJ) (cY := cY) (cH := cH) (b := q0) H1.size) cw ⟨fun a U g mk q => by obtain ⟨q0, q1, qP, qK, qD, qA⟩ := q; exact ⟨q0, q1, qP, va_K.moved (u := U) (U := U.calling g mk a) (Vm.Alike.refl U.vm) qK, qD, bAO.moved (u := U) (U := U.calling g mk a) (Vm.Alike.refl U.vm) qA⟩, fun U hU hW => ⟨rfl, by rw [hU], by rw [hU]; exact hP1, va_K.moved hW.alike hC.2.1.1, hD1.weaken (fun _ _ _ _ => trivial), bAO.moved hW.alike hC.2.1.2.1⟩⟩ rfl rfl hl.1 rfl (lv_room ?_) d2 ⟨by omega, by omega⟩) hS1 (fun q _ h => hF q h) hF (fun u t H2 locs2 ht hvm hpost hB hz1 hk1 hS2 => ?_)
  · simp only [List.map_cons, List.sum_cons]
    show 1 + _ ≤ 8
    omega
  obtain ⟨hP2, hD2⟩ := hB
  rw [ht] at hP2
  obtain ⟨ad, e228, hI, hge, hWX⟩ := xw_start hpost hP2 (hD2.weaken (B := fun q => s.heap.size ≤ q) (fun k q _ h => hF q.1 h))
  subst e228
  exact W.widen (by omega) (by omega) (kk ad out ho ⟨fun ad' e9 => by cases e9; exact ⟨hI, hge⟩, fun a e9 => by cases e9⟩ ls hl H2 locs2 ⟨fun ad' e9 => by cases e9; exact hWX, fun a e9 => by cases e9⟩ hS2)
/-- both worlds as one list -/
theorem nP {ad : Nat → Nat} {a : Nat} {H : Heap} (hO : nO s (some ad, some a)) (hW : nW D cI cZ cC cJ cY cH (some ad, some a) μ H) : va_P D vwCl (hb_L 241 ad (hb_E ad (bD cI cZ cC cJ cY cH kdX) kdX μ.1) ++ [nA a cJ μ.2]) H ∧ va_D (fun q => s.heap.size ≤ q) (hb_L 241 ad (hb_E ad (bD cI cZ cC cJ cY cH kdX) kdX μ.1) ++ [nA a cJ μ.2]) := by
  obtain ⟨hI, hge⟩ := hO.1 ad rfl
  obtain ⟨ha, hne⟩ := hO.2 a rfl
  have hD1 := hb_L_D (E := hb_E ad (bD cI cZ cC cJ cY cH kdX) kdX μ.1) hI
  refine ⟨va_P.app (hW.1 ad rfl) (hW.2 a rfl), va_D.app (hD1.weaken (fun k q _ h => by obtain ⟨i, hi, e9⟩ := h; rw [e9]; exact hge i hi)) ⟨fun i j x y hi hj hxy => ?_, fun k q hk => ?_⟩ (fun i j x y hi hj hxy => ?_)⟩
  · have h0 : i < 1 := (List.getElem?_eq_some_iff.mp hi).1
    have h1 : j < 1 := (List.getElem?_eq_some_iff.mp hj).1
    omega
  · have h0 : k < 1 := (List.getElem?_eq_some_iff.mp hk).1
    rw [show k = 0 by omega] at hk
    cases hk
    exact ha
  · have h1 : j < 1 := (List.getElem?_eq_some_iff.mp hj).1
    rw [show j = 0 by omega] at hj
    cases hj
    obtain ⟨hi', rfl⟩ := hb_L_at hi
    exact hne ad rfl i hi' hxy
theorem hb_Ln {N : Nat} {ad : Nat → Nat} {E : Nat → va_E} : (hb_L N ad E).length = N := by simp [hb_L]
theorem nr_newa (hC : nC p s m args meth c cc nL own Ts D cI cZ cC cJ cY cH t1 t2) {ad : Nat → Nat} (h1 : Cond.arrayClass .long ∈ Ts) (hcells : cells + 1 ≤ R.cells) (hslots : slots + 64 ≤ R.slots) (hd : decode cc pc = .ok (.newarray .long, 2)) (kk : ∀ q : Nat, nV p l e R s m args below meth c nL D cI cZ cC cJ cY cH Q (some ad, some q) (cells + 1) (slots + 64) (μ.1, fun _ => 0) (pc + 2) lv (.ref q :: st) b) : nV p l e R s m args below meth c nL D cI cZ cC cJ cY cH Q (some ad, none) cells slots μ pc lv (.int 64 :: st) b := by
  intro out ho hO ls hl H locs hW hS
  obtain ⟨hI, hge⟩ := hO.1 ad rfl
  have hD := (hb_L_D (E := hb_E ad (bD cI cZ cC cJ cY cH kdX) kdX μ.1) hI).weaken (B := fun q => s.heap.size ≤ q) (fun k q _ h => by obtain ⟨i, hi, e9⟩ := h; rw [e9]; exact hge i hi)
  refine va_newa (atype := .long) (ty := .long) (N' := 64) (a0 := (64, .inr (.inl (fun _ => 0)))) hC.1.1 hC.1.2.1 (hC.1.2.2.2.2 _ h1) rfl hC.2.1.1 (hW.1 ad rfl) hD hS (fun _ h => h) (fun _ => rfl) (by decide) rfl (Nat.le_of_ble_eq_true rfl) hcells hslots hd (fun q cB H1 hK1 hP1 hD1 hS1 => ?_)
  have hcB : cB = cJ := va_RA_one (hK1.2 6 (cB, .long) rfl).2 (hC.2.1.1.2 3 (cJ, .long) rfl).2
  subst hcB
  have h241 : (hb_L 241 ad (hb_E ad (bD cI cZ cC cB cY cH kdX) kdX μ.1) ++ [((q, .inl (cB, 64, .inr (.inl (fun _ => 0)))) : Nat × va_E)])[241]? = some (q, .inl (cB, 64, .inr (.inl (fun _ => 0)))) := by
    rw [List.getElem?_append_right (by rw [hb_Ln]; omega), hb_Ln]
    rfl
  have hlo : ∀ i, i < 241 → (hb_L 241 ad (hb_E ad (bD cI cZ cC cB cY cH kdX) kdX μ.1) ++ [((q, .inl (cB, 64, .inr (.inl (fun _ => 0)))) : Nat × va_E)])[i]? = some (ad i, hb_E ad (bD cI cZ cC cB cY cH kdX) kdX μ.1 i) := fun i hi => by
    rw [List.getElem?_append_left (by rw [hb_Ln]; exact hi)]
    exact hb_L_get hi
  refine kk q out ho ⟨hO.1, fun a e9 => ?_⟩ ls hl H1 locs ⟨fun ad' e9 => ?_, fun a e9 => ?_⟩ hS1
  · cases e9
    refine ⟨hD1.2 241 _ h241, fun ad' e8 i hi h => ?_⟩
    cases e8
    have := hD1.1 i 241 _ _ (hlo i hi) h241 h
    omega
  · cases e9
    exact va_P_left hP1
  · cases e9
    intro k x hk
    have h0 : k < 1 := (List.getElem?_eq_some_iff.mp hk).1
    rw [show k = 0 by omega] at hk
    cases hk
    exact hP1 241 _ h241
theorem nr_last (hC : nC p s m args meth c cc nL own Ts D cI cZ cC cJ cY cH t1 t2) {ad : Nat → Nat} {a : Nat} {i : Int32} {x : Int64} (hd : decode cc pc = .ok (.lastore, 1)) (kk : nV p l e R s m args below meth c nL D cI cZ cC cJ cY cH Q (some ad, some a) cells slots (μ.1, vp_updL μ.2 i.toNatClampNeg x) (pc + 1) lv st b) : nV p l e R s m args below meth c nL D cI cZ cC cJ cY cH Q (some ad, some a) cells slots μ pc lv (.long x :: .int i :: .ref a :: st) (if ib i 64 then b else none) := by
  intro out ho hO ls hl H locs hW hS
  by_cases hi0 : ib i 64 = true
  · rw [if_pos hi0] at ho
    have hi := ib_in hi0
    obtain ⟨hP, hD⟩ := nP hO hW
    refine va_last hC.1.1 hC.1.2.1 hC.2.1.1 hP hD hS 241 3 (a := a) (n := 64) (f := μ.2) (by rw [List.getElem?_append_right (by rw [hb_Ln]; omega), hb_Ln]; rfl) rfl hi hd (fun H1 locs1 hP1 hD1 hS1 => ?_)
    have hset : (hb_L 241 ad (hb_E ad (bD cI cZ cC cJ cY cH kdX) kdX μ.1) ++ [nA a cJ μ.2]).set 241 (a, .inl (cJ, 64, .inr (.inl (vp_updL μ.2 i.toNatClampNeg x)))) = hb_L 241 ad (hb_E ad (bD cI cZ cC cJ cY cH kdX) kdX μ.1) ++ [nA a cJ (vp_updL μ.2 i.toNatClampNeg x)] := by
      rw [List.set_append_right _ _ (by rw [hb_Ln]; omega), hb_Ln]
      rfl
    rw [hset] at hP1
    refine kk out ho hO ls hl H1 locs1 ⟨fun ad' e9 => ?_, fun a' e9 => ?_⟩ hS1
    · cases e9
      exact va_P_left hP1
    · cases e9
      intro k y hk
      have h0 : k < 1 := (List.getElem?_eq_some_iff.mp hk).1
      rw [show k = 0 by omega] at hk
      cases hk
      exact hP1 241 _ (by rw [List.getElem?_append_right (by rw [hb_Ln]; omega), hb_Ln]; rfl)
  · rw [if_neg hi0] at ho
    cases ho
theorem nr_lald (hC : nC p s m args meth c cc nL own Ts D cI cZ cC cJ cY cH t1 t2) {ad : Nat → Nat} {a : Nat} {i : Int32} (hd : decode cc pc = .ok (.laload, 1)) (kk : nV p l e R s m args below meth c nL D cI cZ cC cJ cY cH Q (some ad, some a) cells slots μ (pc + 1) lv (.long (μ.2 i.toNatClampNeg) :: st) b) : nV p l e R s m args below meth c nL D cI cZ cC cJ cY cH Q (some ad, some a) cells slots μ pc lv (.int i :: .ref a :: st) (if ib i 64 then b else none) := by
  intro out ho hO ls hl H locs hW hS
  by_cases hi0 : ib i 64 = true
  · rw [if_pos hi0] at ho
    exact va_lald hC.1.1 hC.1.2.1 hC.2.1.1 (hW.2 a rfl) 0 3 (n := 64) (f := μ.2) rfl rfl (ib_in hi0) hd (kk out ho hO ls hl H locs hW hS)
  · rw [if_neg hi0] at ho
    cases ho
end NLAY2
section NRET
variable {p : Program} {l : Launch} {e : Env} {R : Room} {s : State} {m : MethodId} {args : Array Value} {below : List Frame} {meth : Method} {c : Code} {cc : ByteArray} {nL : Nat} {own : String} {Ts : List Cond} {D : va_G} {cI cZ cC cJ cY cH : ClassId} {t1 t2 : Nat} {z : nZ} {cells slots mc ms : Nat} {μ : lm} {pc : Nat} {lv : List (Nat × Value)}
abbrev nqQ (below : List Frame) (args : Array Value) (s : State) (mc ms : Nat) : Int32 → State → Prop := fun r => MQ below (nQ r) args s mc ms (fun _ => False)
theorem nr_ireti (hC : nC p s m args meth c cc nL own Ts D cI cZ cC cJ cY cH t1 t2) {x : Int32} (hr : meth.sig.returnType = some .int) (h1 : cells ≤ mc) (h2 : slots ≤ ms) (hd : decode cc pc = .ok (.ireturn, 1)) : nV p l e R s m args below meth c nL D cI cZ cC cJ cY cH (nqQ below args s mc ms) z cells slots μ pc lv [.int x] (some x) := by
  intro out ho hO ls hl H locs hW hS
  cases ho
  exact va_forget hS.2.2 (W.widen h1 h2 (W.iret hC.1.1 hC.1.2.1 hr (fun t ht hWm => ⟨rfl, by rw [ht]; exact hS.1, fun q h3 _ => by rw [ht]; exact hS.2.1 q h3 (Nat.not_le.mpr h3)⟩) (fun q hq => by cases hq) hd hC.2.2))
theorem nr_iretz (hC : nC p s m args meth c cc nL own Ts D cI cZ cC cJ cY cH t1 t2) {x : Int32} (hr : meth.sig.returnType = some .boolean) (h1 : cells ≤ mc) (h2 : slots ≤ ms) (hd : decode cc pc = .ok (.ireturn, 1)) (hx : narrow .boolean (.int x) = .int x) : nV p l e R s m args below meth c nL D cI cZ cC cJ cY cH (nqQ below args s mc ms) z cells slots μ pc lv [.int x] (some x) := by
  intro out ho hO ls hl H locs hW hS
  cases ho
  exact va_forget hS.2.2 (W.widen h1 h2 (W.zret hC.1.1 hC.1.2.1 hr hx (fun t ht hWm => ⟨rfl, by rw [ht]; exact hS.1, fun q h3 _ => by rw [ht]; exact hS.2.1 q h3 (Nat.not_le.mpr h3)⟩) (fun q hq => by cases hq) hd hC.2.2))
end NRET
theorem n_start {l : Launch} {y : MethodName} {ws ws' : List Cond} {rm : Room} {cc : ByteArray} {maxL : Nat} {ret : Option FieldType} {D : va_G} {cI cZ cC cJ cY cH : ClassId} {t1 t2 mc ms : Nat} {av : List Value} {b : Option Int32} (hy : plainName y.cls = true) (hw : ws = Cond.code y cc maxL ret :: ws') (hn : (lg_sl av).length ≤ maxL) (lv : List (Nat × Value)) (hlv : lv_args 0 av = lv)
    (body : ∀ (p : Program) (e : Env) (s : State) (m : MethodId) (args : Array Value) (below : List Frame) (meth : Method) (c : Code), nC p s m args meth c cc maxL y.cls ws D cI cZ cC cJ cY cH t1 t2 → meth.sig.returnType = ret → nV p l e rm s m args below meth c maxL D cI cZ cC cJ cY cH (nqQ below args s mc ms) (none, none) 0 0 (mz, fun _ => 0) 0 lv [] b) : ∀ r, b = some r → Met l y ws rm (va_Pc av (nR D cI cZ cC cJ cY cH t1 t2)) (nQ r) mc ms (fun _ => False) := by
  intro r ho
  refine Met.ofW (cc := cc) (maxL := maxL) (ret := ret) hy hw ?_
  intro p e s m args below meth c s₁ B hml hv
  obtain ⟨rfl, hR⟩ := hv
  rw [lg_entry_eq]
  subst hlv
  exact body p e s m _ below meth c ⟨⟨B.exec, B.bytes, hml, findClass_of_methodNamed B.named, atoms_spec (ws := ws) B.pre⟩, hR, B.notSynchronized⟩ B.returns r ho ⟨fun ad h => (by cases h), fun a h => (by cases h)⟩ _ (lv_entry av hn) s.heap [] ⟨fun ad h => (by cases h), fun a h => (by cases h)⟩ va_S.rf

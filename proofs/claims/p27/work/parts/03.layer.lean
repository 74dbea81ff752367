/-! THE MEMORY LAYER: a world is N numbered cells at the addresses ad; the kinds kd say what each is; mu holds the numbers (ints by cell and place, longs by cell and place) -/
/-- an index is in a row -/
def ib (i : Int32) (n : Nat) : Bool := decide (0 ≤ i) && decide (i.toNatClampNeg < n)
/-- a row may be copied -/
def cb (ty : FieldType) (μ : hb_m) (a n n0 n1 : Nat) : Bool := decide (n ≤ n0) && decide (n ≤ n1) && (List.range n).all (fun i => fits ty (.int (rd μ a i)))
theorem ib_in {i : Int32} {n : Nat} (h : ib i n = true) : vp_in i n := by
  simp only [ib, Bool.and_eq_true, decide_eq_true_eq] at h
  intro q
  rcases q with q | q
  · exact absurd h.1 (Int32.not_le.mpr q)
  · omega
abbrev hb_k : Type := (Nat × List (Option Nat)) ⊕ (FieldType × Nat) ⊕ Nat ⊕ (String × List Nat)
abbrev hb_tb : Type := String × String × String × Nat × Nat × (Nat → Int32)
abbrev hb_nw : Type := String × Nat × MethodName × String
def hb_F (ad : Nat → Nat) (f : Nat → Int32) : Nat → List (Option Nat) → List Value
  | _, [] => []
  | i, some j :: r => .ref (ad j) :: hb_F ad f (i + 1) r
  | i, none :: r => .int (f i) :: hb_F ad f (i + 1) r
def hb_E0 (ad : Nat → Nat) (dA : Nat → ClassId) (kd : Nat → hb_k) (φ : Nat → Nat → Int32) (ψ : Nat → Nat → Int64) (k : Nat) : va_E := match kd k with
  | .inl (ci, fl) => .inr (ci, hb_F ad (φ k) 0 fl)
  | .inr (.inl (_, n)) => .inl (dA k, n, .inl (φ k))
  | .inr (.inr (.inl n)) => .inl (dA k, n, .inr (.inl (ψ k)))
  | .inr (.inr (.inr (_, l))) => .inl (dA k, l.length, .inr (.inr (.inr (.inr (fun j => (l[j]?).map ad)))))
def hb_E (ad : Nat → Nat) (dA : Nat → ClassId) (kd : Nat → hb_k) (μ : hb_m) (k : Nat) : va_E := hb_E0 ad dA kd (rd μ) (rL μ) k
def hb_t (kd : Nat → hb_k) (k : Nat) : Option FieldType := match kd k with
  | .inl _ => none
  | .inr (.inl (ty, _)) => some ty
  | .inr (.inr (.inl _)) => some .long
  | .inr (.inr (.inr (C, _))) => some (.object C)
def hb_L (N : Nat) (ad : Nat → Nat) (E : Nat → va_E) : va_W := (List.range N).map fun k => (ad k, E k)
def hb_A (N : Nat) (ad : Nat → Nat) : Nat → Prop := fun q => ∃ k, k < N ∧ q = ad k
def hb_I (N : Nat) (ad : Nat → Nat) : Prop := ∀ i j, i < N → j < N → ad i = ad j → i = j
def hb_W (cl : List vw_C) (kd : Nat → hb_k) (N : Nat) (ad : Nat → Nat) (D : va_G) (dA : Nat → ClassId) (μ : hb_m) (H : Heap) : Prop := va_P D cl (hb_L N ad (hb_E ad dA kd μ)) H
def hb_K (cl : List vw_C) (kd : Nat → hb_k) (N : Nat) (D : va_G) (dA : Nat → ClassId) (U : State) : Prop := va_K D cl [] U ∧ ∀ k, k < N → ∀ ty, hb_t kd k = some ty → ArrOfT U (dA k) ty ∧ va_RA U (dA k) ty
def hb_T (tb : List hb_tb) (A : Nat → Prop) (U : State) (H : Heap) : Prop := ∀ q ∈ tb, va_Z q.1 q.2.1 q.2.2.1 (.ref q.2.2.2.1) A U H ∧ va_T .int q.2.2.2.1 q.2.2.2.2.1 (fun j => .int (q.2.2.2.2.2 j)) A U H
def hb_N (nw : List hb_nw) (U : State) : Prop := ∀ q ∈ nw, va_Nw (.methodLinkNest q.1 q.2.1 q.2.2.1 q.2.2.2) U
def hb_R (cl : List vw_C) (kd : Nat → hb_k) (N : Nat) (ad : Nat → Nat) (D : va_G) (dA : Nat → ClassId) (tb : List hb_tb) (nw : List hb_nw) (μ : hb_m) (U : State) : Prop := hb_W cl kd N ad D dA μ U.heap ∧ hb_K cl kd N D dA U ∧ hb_T tb (hb_A N ad) U U.heap ∧ hb_N nw U
def hb_C (p : Program) (s : State) (m : MethodId) (args : Array Value) (meth : Method) (c : Code) (cc : ByteArray) (nL : Nat) (own : String) (Ts : List Cond) (cl : List vw_C) (kd : Nat → hb_k) (N : Nat) (ad : Nat → Nat) (D : va_G) (dA : Nat → ClassId) (tb : List hb_tb) (nw : List hb_nw) : Prop :=
  (p.tables.exec = Jvm.exec ∧ c.code = cc ∧ c.maxLocals = nL ∧ s.vm.findClass own = some m.cls ∧ ∀ w ∈ Ts, w.before args s = true) ∧ hb_K cl kd N D dA s ∧ hb_I N ad ∧ hb_T tb (hb_A N ad) s s.heap ∧ hb_N nw s ∧ meth.locks = false
def hb_V (p : Program) (l : Launch) (e : Env) (R : Room) (s : State) (m : MethodId) (args : Array Value) (below : List Frame) (meth : Method) (c : Code) (nL : Nat) (cl : List vw_C) (kd : Nat → hb_k) (N : Nat) (ad : Nat → Nat) (D : va_G) (dA : Nat → ClassId) {β : Type} (Qo : β → Array Value → State → Outcome → State → Prop) (μ : hb_m) (pc : Nat) (lv : List (Nat × Value)) (st : List Value) (b : Option β) : Prop :=
  ∀ out, b = some out → ∀ ls : Array Slot, lv_has ls nL lv → ∀ (H : Heap) (locs : List Loc), hb_W cl kd N ad D dA μ H → va_S (hb_A N ad) s.heap H locs → W p l e R s m args below meth c H locs 0 0 (MQ below (Qo out) args s 0 0 (hb_A N ad)) (F0 m pc ls st)
/-- a method's contract: it does what the body says, where the body says anything -/
def hb_M {β : Type} (Qo : β → Array Value → State → Outcome → State → Prop) (l : Launch) (y : MethodName) (ws : List Cond) (rm : Room) (cl : List vw_C) (kd : Nat → hb_k) (N : Nat) (ad : Nat → Nat) (D : va_G) (dA : Nat → ClassId) (tb : List hb_tb) (nw : List hb_nw) (av : List Value) (μ : hb_m) (b : Option β) : Prop :=
  ∀ out, b = some out → Met l y ws rm (va_Pc av (hb_R cl kd N ad D dA tb nw μ)) (Qo out) 0 0 (hb_A N ad)
def hb_Q {β : Type} (cl : List vw_C) (kd : Nat → hb_k) (N : Nat) (ad : Nat → Nat) (D : va_G) (dA : Nat → ClassId) (rv : β → Option Value) (mu : β → hb_m) (out : β) : Array Value → State → Outcome → State → Prop := fun _ s0 oc t => (oc = .returned (rv out) ∧ hb_W cl kd N ad D dA (mu out) t.heap) ∧ va_F (hb_A N ad) s0 t
abbrev hb_Qi (cl : List vw_C) (kd : Nat → hb_k) (N : Nat) (ad : Nat → Nat) (D : va_G) (dA : Nat → ClassId) : Int32 × hb_m → Array Value → State → Outcome → State → Prop := hb_Q cl kd N ad D dA (fun o => some (.int o.1)) (fun o => o.2)
abbrev hb_Qv (cl : List vw_C) (kd : Nat → hb_k) (N : Nat) (ad : Nat → Nat) (D : va_G) (dA : Nat → ClassId) : hb_m → Array Value → State → Outcome → State → Prop := hb_Q cl kd N ad D dA (fun _ => none) (fun o => o)
abbrev hb_Qr (cl : List vw_C) (kd : Nat → hb_k) (N : Nat) (ad : Nat → Nat) (D : va_G) (dA : Nat → ClassId) : Option Nat × hb_m → Array Value → State → Outcome → State → Prop := hb_Q cl kd N ad D dA (fun o => some (va_rf (o.1.map ad))) (fun o => o.2)
abbrev hb_Ql (cl : List vw_C) (kd : Nat → hb_k) (N : Nat) (ad : Nat → Nat) (D : va_G) (dA : Nat → ClassId) : Int64 × hb_m → Array Value → State → Outcome → State → Prop := hb_Q cl kd N ad D dA (fun o => some (.long o.1)) (fun o => o.2)
/-- bodies go on behind a call -/
def bl {β : Type} (x : Option (Int64 × hb_m)) (K : Int64 → hb_m → Option β) : Option β := match x with
  | none => none
  | some o => K o.1 o.2
theorem bl_some {β : Type} {r : Int64} {μ : hb_m} {K : Int64 → hb_m → Option β} : bl (some (r, μ)) K = K r μ := rfl
def bi {β : Type} (x : Option (Int32 × hb_m)) (K : Int32 → hb_m → Option β) : Option β := match x with
  | none => none
  | some o => K o.1 o.2
def bv {β : Type} (x : Option hb_m) (K : hb_m → Option β) : Option β := match x with
  | none => none
  | some o => K o
def br {β : Type} (x : Option (Option Nat × hb_m)) (K0 : hb_m → Option β) (K1 : Nat → hb_m → Option β) : Option β := match x with
  | none => none
  | some o => match o.1 with
    | none => K0 o.2
    | some q => K1 q o.2
theorem bi_some {β : Type} {r : Int32} {μ : hb_m} {K : Int32 → hb_m → Option β} : bi (some (r, μ)) K = K r μ := rfl
theorem bv_some {β : Type} {μ : hb_m} {K : hb_m → Option β} : bv (some μ) K = K μ := rfl
theorem br_none {β : Type} {μ : hb_m} {K0 : hb_m → Option β} {K1 : Nat → hb_m → Option β} : br (some (none, μ)) K0 K1 = K0 μ := rfl
theorem br_some {β : Type} {q : Nat} {μ : hb_m} {K0 : hb_m → Option β} {K1 : Nat → hb_m → Option β} : br (some (some q, μ)) K0 K1 = K1 q μ := rfl
theorem hb_L_get {N : Nat} {ad : Nat → Nat} {E : Nat → va_E} {k : Nat} (h : k < N) : (hb_L N ad E)[k]? = some (ad k, E k) := by
  simp [hb_L, List.getElem?_range h]
theorem hb_L_at {N : Nat} {ad : Nat → Nat} {E : Nat → va_E} {k : Nat} {q : Nat × va_E} (h : (hb_L N ad E)[k]? = some q) : k < N ∧ q = (ad k, E k) := by
  have h1 : k < N := by
    have h2 := (List.getElem?_eq_some_iff.mp h).1
    simpa [hb_L] using h2
  rw [hb_L_get h1] at h
  exact ⟨h1, (Option.some.inj h).symm⟩
theorem hb_L_set {N : Nat} {ad : Nat → Nat} {E E' : Nat → va_E} {k : Nat} {v : va_E} (h : k < N) (h1 : E' k = v) (h2 : ∀ j, j ≠ k → E' j = E j) : (hb_L N ad E).set k (ad k, v) = hb_L N ad E' := by
  apply List.ext_getElem?
  intro j
  by_cases hj : j < N
  · rw [hb_L_get hj, List.getElem?_set]
    by_cases hk : k = j
    · subst hk
      rw [if_pos rfl, if_pos (by simpa [hb_L] using h), h1]
    · rw [if_neg hk, hb_L_get hj, h2 j (fun q => hk q.symm)]
  · rw [List.getElem?_eq_none (by simpa [hb_L] using hj), List.getElem?_eq_none (by simpa [hb_L] using hj)]
theorem hb_L_D {N : Nat} {ad : Nat → Nat} {E : Nat → va_E} (h : hb_I N ad) : va_D (hb_A N ad) (hb_L N ad E) := by
  constructor
  · intro i j x y hi hj hxy
    obtain ⟨h1, rfl⟩ := hb_L_at hi
    obtain ⟨h2, rfl⟩ := hb_L_at hj
    exact h i j h1 h2 hxy
  · intro k q hk
    obtain ⟨h1, rfl⟩ := hb_L_at hk
    exact ⟨k, h1, rfl⟩
theorem hb_F_get {ad : Nat → Nat} {f : Nat → Int32} : ∀ (fl : List (Option Nat)) (i j : Nat), (fl[j]? = some none → (hb_F ad f i fl)[j]? = some (.int (f (i + j)))) ∧ (∀ q, fl[j]? = some (some q) → (hb_F ad f i fl)[j]? = some (.ref (ad q)))
  | [], i, j => ⟨fun h => by simp at h, fun q h => by simp at h⟩
  | x :: r, i, 0 => by
    cases x with
    | none => exact ⟨fun _ => by simp [hb_F], fun q h => by simp at h⟩
    | some a => exact ⟨fun h => by simp at h, fun q h => by simp at h; subst h; simp [hb_F]⟩
  | x :: r, i, j + 1 => by
    obtain ⟨h1, h2⟩ := hb_F_get (ad := ad) (f := f) r (i + 1) j
    rw [show i + 1 + j = i + (j + 1) by omega] at h1
    cases x with
    | none => exact ⟨fun h => by simpa [hb_F] using h1 (by simpa using h), fun q h => by simpa [hb_F] using h2 q (by simpa using h)⟩
    | some a => exact ⟨fun h => by simpa [hb_F] using h1 (by simpa using h), fun q h => by simpa [hb_F] using h2 q (by simpa using h)⟩
theorem hb_F_same {ad : Nat → Nat} {f g : Nat → Int32} : ∀ (fl : List (Option Nat)) (i : Nat), (∀ k, i ≤ k → f k = g k) → hb_F ad f i fl = hb_F ad g i fl
  | [], _, _ => rfl
  | some a :: r, i, h => by simp only [hb_F]; rw [hb_F_same r (i + 1) (fun k hk => h k (by omega))]
  | none :: r, i, h => by simp only [hb_F]; rw [hb_F_same r (i + 1) (fun k hk => h k (by omega)), h i (Nat.le_refl i)]
theorem hb_F_set {ad : Nat → Nat} {x : Int32} : ∀ (fl : List (Option Nat)) (f : Nat → Int32) (i j : Nat), fl[j]? = some none → (hb_F ad f i fl).set j (.int x) = hb_F ad (upd f (i + j) x) i fl
  | [], f, i, j, h => by simp at h
  | y :: r, f, i, 0, h => by
    simp at h
    subst h
    simp only [hb_F, List.set_cons_zero, Nat.add_zero]
    rw [hb_F_same (f := upd f i x) (g := f) r (i + 1) (fun k hk => by simp [upd]; omega)]
    simp [upd]
  | y :: r, f, i, j + 1, h => by
    have h1 := hb_F_set (ad := ad) (x := x) r f (i + 1) j (by simpa using h)
    rw [show i + 1 + j = i + (j + 1) by omega] at h1
    cases y with
    | none =>
      simp only [hb_F, List.set_cons_succ, h1]
      congr 2
      simp [upd]
    | some a => simp only [hb_F, List.set_cons_succ, h1]
theorem hb_F_len {ad : Nat → Nat} {f : Nat → Int32} : ∀ (fl : List (Option Nat)) (i : Nat), (hb_F ad f i fl).length = fl.length
  | [], _ => rfl
  | some a :: r, i => by simp [hb_F, hb_F_len r (i + 1)]
  | none :: r, i => by simp [hb_F, hb_F_len r (i + 1)]
theorem hb_setF {N k j ci : Nat} {ad : Nat → Nat} {dA : Nat → ClassId} {kd : Nat → hb_k} {μ : hb_m} {fl : List (Option Nat)} {x : Int32} (hk : k < N) (hd : kd k = .inl (ci, fl)) (hf : fl[j]? = some none) : (hb_L N ad (hb_E ad dA kd μ)).set k (ad k, .inr (ci, (hb_F ad (rd μ k) 0 fl).set j (.int x))) = hb_L N ad (hb_E ad dA kd (wr μ k j x)) := by
  refine hb_L_set hk ?_ ?_
  · have h1 := hb_F_set (ad := ad) (x := x) fl (rd μ k) 0 j hf
    rw [Nat.zero_add] at h1
    simp [hb_E, hb_E0, hd, rdf_wr, h1]
  · intro i hi
    simp [hb_E, hb_E0, rdf_wn hi, rLf_wr]
theorem hb_setI {N k i n : Nat} {ty : FieldType} {ad : Nat → Nat} {dA : Nat → ClassId} {kd : Nat → hb_k} {μ : hb_m} {x : Int32} (hk : k < N) (hd : kd k = .inr (.inl (ty, n))) : (hb_L N ad (hb_E ad dA kd μ)).set k (ad k, .inl (dA k, n, .inl (upd (rd μ k) i x))) = hb_L N ad (hb_E ad dA kd (wr μ k i x)) := by
  refine hb_L_set hk ?_ ?_
  · simp [hb_E, hb_E0, hd, rdf_wr]
  · intro j hj
    simp [hb_E, hb_E0, rdf_wn hj, rLf_wr]
theorem hb_setC {N a k n0 n : Nat} {ty : FieldType} {ad : Nat → Nat} {dA : Nat → ClassId} {kd : Nat → hb_k} {μ : hb_m} (hk : k < N) (hd : kd k = .inr (.inl (ty, n0))) : (hb_L N ad (hb_E ad dA kd μ)).set k (ad k, .inl (dA k, n0, .inl (va_cpy (rd μ a) (rd μ k) 0 0 n))) = hb_L N ad (hb_E ad dA kd (cpA μ a k n)) := by
  refine hb_L_set hk ?_ ?_
  · simp [hb_E, hb_E0, hd, rdf_cp]
  · intro j hj
    simp [hb_E, hb_E0, rdf_cn hj, rLf_cp]
theorem hb_setJ {N k i n : Nat} {ad : Nat → Nat} {dA : Nat → ClassId} {kd : Nat → hb_k} {μ : hb_m} {x : Int64} (hk : k < N) (hd : kd k = .inr (.inr (.inl n))) : (hb_L N ad (hb_E ad dA kd μ)).set k (ad k, .inl (dA k, n, .inr (.inl (vp_updL (rL μ k) i x)))) = hb_L N ad (hb_E ad dA kd (wL μ k i x)) := by
  refine hb_L_set hk ?_ ?_
  · simp [hb_E, hb_E0, hd, rLf_wL]
  · intro j hj
    simp [hb_E, hb_E0, rdf_wL, rLf_wn hj]
theorem hb_Kt {cl : List vw_C} {kd : Nat → hb_k} {N : Nat} {D : va_G} {dA : Nat → ClassId} {U : State} (h : hb_K cl kd N D dA U) {k : Nat} {ty : FieldType} (hk : k < N) (ht : hb_t kd k = some ty) : va_K D cl [(dA k, ty)] U := by
  refine ⟨h.1.1, fun j q hj => ?_⟩
  have hz : j < 1 := (List.getElem?_eq_some_iff.mp hj).1
  rw [show j = 0 by omega] at hj
  cases hj
  exact h.2 k hk ty ht
theorem hb_Kt2 {cl : List vw_C} {kd : Nat → hb_k} {N : Nat} {D : va_G} {dA : Nat → ClassId} {U : State} (h : hb_K cl kd N D dA U) {a k : Nat} {ty : FieldType} (ha : a < N) (hta : hb_t kd a = some ty) (hk : k < N) (ht : hb_t kd k = some ty) : va_K D cl [(dA a, ty), (dA k, ty)] U :=
  va_K.app (hb_Kt h ha hta) (hb_Kt h hk ht)
theorem hb_K.moved {cl : List vw_C} {kd : Nat → hb_k} {N : Nat} {D : va_G} {dA : Nat → ClassId} {u U : State} (hvm : u.vm.Alike U.vm) (h : hb_K cl kd N D dA u) : hb_K cl kd N D dA U := ⟨h.1.moved hvm, fun k hk ty ht => ⟨arrOfT_moved hvm (h.2 k hk ty ht).1, (h.2 k hk ty ht).2.moved hvm⟩⟩
theorem hb_T.moved {tb : List hb_tb} {A : Nat → Prop} {u U : State} {H : Heap} (hvm : u.vm.Alike U.vm) (h : hb_T tb A u H) : hb_T tb A U H := fun q hq => ⟨(h q hq).1.moved hvm, (h q hq).2.moved hvm⟩
theorem hb_T.kept {tb : List hb_tb} {A : Nat → Prop} {U : State} {H H1 : Heap} (h : hb_T tb A U H) (hq : ∀ a : Nat, a < H.size → ¬ A a → H1[a]? = H[a]?) : hb_T tb A U H1 := fun q h1 => ⟨(h q h1).1.kept hq, (h q h1).2.kept hq⟩
theorem hb_N.warm {nw : List hb_nw} {s U : State} (hW : s.WarmedH U.vm) (h : hb_N nw s) : hb_N nw U := fun q hq => va_Nw.warmM hW (h q hq)
theorem hb_blind {cl : List vw_C} {kd : Nat → hb_k} {N : Nat} {ad : Nat → Nat} {D : va_G} {dA : Nat → ClassId} {tb : List hb_tb} {nw : List hb_nw} {av : List Value} {μ : hb_m} : FrameBlind (va_Pc av (hb_R cl kd N ad D dA tb nw μ)) := by
  intro a U g mk h
  obtain ⟨h1, h2, h3, h4, h5⟩ := h
  refine ⟨h1, h2, ?_, ?_, ?_⟩
  · exact hb_K.moved (u := U) (U := U.calling g mk a) (Vm.Alike.refl U.vm) h3
  · exact hb_T.moved (u := U) (U := U.calling g mk a) (Vm.Alike.refl U.vm) h4
  · exact fun q hq => va_Nw.same (u := U) (U := U.calling g mk a) rfl rfl (h5 q hq)
section HBR
variable {p : Program} {l : Launch} {e : Env} {R : Room} {s : State} {m : MethodId} {args : Array Value} {below : List Frame} {meth : Method} {c : Code} {cc : ByteArray} {nL : Nat} {own : String} {Ts : List Cond} {cl : List vw_C} {kd : Nat → hb_k} {N : Nat} {ad : Nat → Nat} {D : va_G} {dA : Nat → ClassId} {tb : List hb_tb} {nw : List hb_nw} {β : Type} {Qo : β → Array Value → State → Outcome → State → Prop} {μ : hb_m} {pc : Nat} {lv : List (Nat × Value)} {st : List Value} {b : Option β}
theorem hb_at (hC : hb_C p s m args meth c cc nL own Ts cl kd N ad D dA tb nw) {k : Nat} {H : Heap} {locs : List Loc} (hW : hb_W cl kd N ad D dA μ H) (hS : va_S (hb_A N ad) s.heap H locs) {U : State} (hU : U.heap = H) (hw : s.WarmedH U.vm) : hb_R cl kd N ad D dA tb nw μ U := by
  obtain ⟨-, hK, hI, hT, hN, -⟩ := hC
  refine ⟨by rw [hU]; exact hW, hK.moved hw.alike, ?_, hN.warm hw⟩
  rw [hU]
  exact (hT.kept hS.2.1).moved hw.alike
theorem hr_sub {lv' : List (Nat × Value)} (ks : List Nat) (hl : lv_pick lv ks = lv') (k : hb_V p l e R s m args below meth c nL cl kd N ad D dA Qo μ pc lv' st b) : hb_V p l e R s m args below meth c nL cl kd N ad D dA Qo μ pc lv st b := fun out ho ls h H locs hW hS => k out ho ls (lv_sub h ks hl) H locs hW hS
theorem hr_none : hb_V p l e R s m args below meth c nL cl kd N ad D dA Qo μ pc lv st none := fun out ho => by cases ho
theorem hr_iconst (hC : hb_C p s m args meth c cc nL own Ts cl kd N ad D dA tb nw) {n : Int} {v : Int32} (hd : decode cc pc = .ok (.iconst n, 1)) (hv : Int32.ofInt n = v) (k : hb_V p l e R s m args below meth c nL cl kd N ad D dA Qo μ (pc + 1) lv (.int v :: st) b) : hb_V p l e R s m args below meth c nL cl kd N ad D dA Qo μ pc lv st b := fun out ho ls hl H locs hW hS => lv_iconst hC.1.1 hC.1.2.1 hd hv (k out ho ls hl H locs hW hS)
theorem hr_bipush (hC : hb_C p s m args meth c cc nL own Ts cl kd N ad D dA tb nw) {n : Int} {v : Int32} (hd : decode cc pc = .ok (.bipush n, 2)) (hv : (Int8.ofInt n).toInt32 = v) (k : hb_V p l e R s m args below meth c nL cl kd N ad D dA Qo μ (pc + 2) lv (.int v :: st) b) : hb_V p l e R s m args below meth c nL cl kd N ad D dA Qo μ pc lv st b := fun out ho ls hl H locs hW hS => lv_bipush hC.1.1 hC.1.2.1 hd hv (k out ho ls hl H locs hW hS)
theorem hr_sipush (hC : hb_C p s m args meth c cc nL own Ts cl kd N ad D dA tb nw) {n : Int} {v : Int32} (hd : decode cc pc = .ok (.sipush n, 3)) (hv : (Int16.ofInt n).toInt32 = v) (k : hb_V p l e R s m args below meth c nL cl kd N ad D dA Qo μ (pc + 3) lv (.int v :: st) b) : hb_V p l e R s m args below meth c nL cl kd N ad D dA Qo μ pc lv st b := fun out ho ls hl H locs hW hS => lv_sipush hC.1.1 hC.1.2.1 hd hv (k out ho ls hl H locs hW hS)
theorem hr_lconst (hC : hb_C p s m args meth c cc nL own Ts cl kd N ad D dA tb nw) {n : Fin 2} {v : Int64} (hd : decode cc pc = .ok (.lconst n, 1)) (hv : Int64.ofNat (n : Nat) = v) (k : hb_V p l e R s m args below meth c nL cl kd N ad D dA Qo μ (pc + 1) lv (.long v :: st) b) : hb_V p l e R s m args below meth c nL cl kd N ad D dA Qo μ pc lv st b := fun out ho ls hl H locs hW hS => lv_lconst hC.1.1 hC.1.2.1 hd hv (k out ho ls hl H locs hW hS)
theorem hr_ldc (hC : hb_C p s m args meth c cc nL own Ts cl kd N ad D dA tb nw) {index : Nat} {v : Int32} (hd : decode cc pc = .ok (.ldc index, 2)) (hm : Cond.constant own index v ∈ Ts) (k : hb_V p l e R s m args below meth c nL cl kd N ad D dA Qo μ (pc + 2) lv (.int v :: st) b) : hb_V p l e R s m args below meth c nL cl kd N ad D dA Qo μ pc lv st b := fun out ho ls hl H locs hW hS => lv_ldc hC.1.1 hC.1.2.1 hC.1.2.2.2.1 (hC.1.2.2.2.2 _ hm) hd (k out ho ls hl H locs hW hS)
theorem hr_ldc2 (hC : hb_C p s m args meth c cc nL own Ts cl kd N ad D dA tb nw) {index : Nat} {v : Int64} (hd : decode cc pc = .ok (.ldc2_w index, 3)) (hm : Cond.constantLong own index v ∈ Ts) (k : hb_V p l e R s m args below meth c nL cl kd N ad D dA Qo μ (pc + 3) lv (.long v :: st) b) : hb_V p l e R s m args below meth c nL cl kd N ad D dA Qo μ pc lv st b := fun out ho ls hl H locs hW hS => lv_ldc2 hC.1.1 hC.1.2.1 hC.1.2.2.2.1 (hC.1.2.2.2.2 _ hm) hd (k out ho ls hl H locs hW hS)
theorem hr_iload_n (hC : hb_C p s m args meth c cc nL own Ts cl kd N ad D dA tb nw) {k : Fin 4} {i : Nat} {x : Int32} (hd : decode cc pc = .ok (.iload_n k, 1)) (hi : (k : Nat) = i) (j : Nat) (hj : lv[j]? = some (i, .int x)) (kk : hb_V p l e R s m args below meth c nL cl kd N ad D dA Qo μ (pc + 1) lv (.int x :: st) b) : hb_V p l e R s m args below meth c nL cl kd N ad D dA Qo μ pc lv st b := fun out ho ls hl H locs hW hS => lv_iload_n hC.1.1 hC.1.2.1 hd hi (lv_at hl j hj) (kk out ho ls hl H locs hW hS)
theorem hr_iload (hC : hb_C p s m args meth c cc nL own Ts cl kd N ad D dA tb nw) {i : Nat} {x : Int32} (hd : decode cc pc = .ok (.iload i, 2)) (j : Nat) (hj : lv[j]? = some (i, .int x)) (kk : hb_V p l e R s m args below meth c nL cl kd N ad D dA Qo μ (pc + 2) lv (.int x :: st) b) : hb_V p l e R s m args below meth c nL cl kd N ad D dA Qo μ pc lv st b := fun out ho ls hl H locs hW hS => lv_iload hC.1.1 hC.1.2.1 hd (lv_at hl j hj) (kk out ho ls hl H locs hW hS)
theorem hr_istore_n (hC : hb_C p s m args meth c cc nL own Ts cl kd N ad D dA tb nw) {k : Fin 4} {i : Nat} {x : Int32} {lv' : List (Nat × Value)} (hd : decode cc pc = .ok (.istore_n k, 1)) (hi : (k : Nat) = i) (hn : i < nL) (hl : (i, Value.int x) :: lv.filter (fun q => !(q.1 == i) && !(q.1 + 1 == i && q.2.category == 2)) = lv') (kk : hb_V p l e R s m args below meth c nL cl kd N ad D dA Qo μ (pc + 1) lv' st b) : hb_V p l e R s m args below meth c nL cl kd N ad D dA Qo μ pc lv (.int x :: st) b := fun out ho ls h H locs hW hS => lv_istore_n hC.1.1 hC.1.2.1 hd hi h hn hl (fun ls' h' => kk out ho ls' h' H locs hW hS)
theorem hr_istore (hC : hb_C p s m args meth c cc nL own Ts cl kd N ad D dA tb nw) {i : Nat} {x : Int32} {lv' : List (Nat × Value)} (hd : decode cc pc = .ok (.istore i, 2))  (hn : i < nL) (hl : (i, Value.int x) :: lv.filter (fun q => !(q.1 == i) && !(q.1 + 1 == i && q.2.category == 2)) = lv') (kk : hb_V p l e R s m args below meth c nL cl kd N ad D dA Qo μ (pc + 2) lv' st b) : hb_V p l e R s m args below meth c nL cl kd N ad D dA Qo μ pc lv (.int x :: st) b := fun out ho ls h H locs hW hS => lv_istore hC.1.1 hC.1.2.1 hd  h hn hl (fun ls' h' => kk out ho ls' h' H locs hW hS)
theorem hr_lload_n (hC : hb_C p s m args meth c cc nL own Ts cl kd N ad D dA tb nw) {k : Fin 4} {i : Nat} {x : Int64} (hd : decode cc pc = .ok (.lload_n k, 1)) (hi : (k : Nat) = i) (j : Nat) (hj : lv[j]? = some (i, .long x)) (kk : hb_V p l e R s m args below meth c nL cl kd N ad D dA Qo μ (pc + 1) lv (.long x :: st) b) : hb_V p l e R s m args below meth c nL cl kd N ad D dA Qo μ pc lv st b := fun out ho ls hl H locs hW hS => lv_lload_n hC.1.1 hC.1.2.1 hd hi (lv_at hl j hj) (kk out ho ls hl H locs hW hS)
theorem hr_lload (hC : hb_C p s m args meth c cc nL own Ts cl kd N ad D dA tb nw) {i : Nat} {x : Int64} (hd : decode cc pc = .ok (.lload i, 2)) (j : Nat) (hj : lv[j]? = some (i, .long x)) (kk : hb_V p l e R s m args below meth c nL cl kd N ad D dA Qo μ (pc + 2) lv (.long x :: st) b) : hb_V p l e R s m args below meth c nL cl kd N ad D dA Qo μ pc lv st b := fun out ho ls hl H locs hW hS => lv_lload hC.1.1 hC.1.2.1 hd (lv_at hl j hj) (kk out ho ls hl H locs hW hS)
theorem hr_lstore_n (hC : hb_C p s m args meth c cc nL own Ts cl kd N ad D dA tb nw) {k : Fin 4} {i : Nat} {x : Int64} {lv' : List (Nat × Value)} (hd : decode cc pc = .ok (.lstore_n k, 1)) (hi : (k : Nat) = i) (hn : i + 1 < nL) (hl : (i, Value.long x) :: lv.filter (fun q => !(q.1 == i) && (!(q.1 == i + 1) && !(q.1 + 1 == i && q.2.category == 2))) = lv') (kk : hb_V p l e R s m args below meth c nL cl kd N ad D dA Qo μ (pc + 1) lv' st b) : hb_V p l e R s m args below meth c nL cl kd N ad D dA Qo μ pc lv (.long x :: st) b := fun out ho ls h H locs hW hS => lv_lstore_n hC.1.1 hC.1.2.1 hd hi h hn hl (fun ls' h' => kk out ho ls' h' H locs hW hS)
theorem hr_lstore (hC : hb_C p s m args meth c cc nL own Ts cl kd N ad D dA tb nw) {i : Nat} {x : Int64} {lv' : List (Nat × Value)} (hd : decode cc pc = .ok (.lstore i, 2))  (hn : i + 1 < nL) (hl : (i, Value.long x) :: lv.filter (fun q => !(q.1 == i) && (!(q.1 == i + 1) && !(q.1 + 1 == i && q.2.category == 2))) = lv') (kk : hb_V p l e R s m args below meth c nL cl kd N ad D dA Qo μ (pc + 2) lv' st b) : hb_V p l e R s m args below meth c nL cl kd N ad D dA Qo μ pc lv (.long x :: st) b := fun out ho ls h H locs hW hS => lv_lstore hC.1.1 hC.1.2.1 hd  h hn hl (fun ls' h' => kk out ho ls' h' H locs hW hS)
theorem hr_aload_n (hC : hb_C p s m args meth c cc nL own Ts cl kd N ad D dA tb nw) {k : Fin 4} {i : Nat} {x : Nat} (hd : decode cc pc = .ok (.aload_n k, 1)) (hi : (k : Nat) = i) (j : Nat) (hj : lv[j]? = some (i, .ref x)) (kk : hb_V p l e R s m args below meth c nL cl kd N ad D dA Qo μ (pc + 1) lv (.ref x :: st) b) : hb_V p l e R s m args below meth c nL cl kd N ad D dA Qo μ pc lv st b := fun out ho ls hl H locs hW hS => lv_aload_n hC.1.1 hC.1.2.1 hd hi (lv_at hl j hj) (kk out ho ls hl H locs hW hS)
theorem hr_aload (hC : hb_C p s m args meth c cc nL own Ts cl kd N ad D dA tb nw) {i : Nat} {x : Nat} (hd : decode cc pc = .ok (.aload i, 2)) (j : Nat) (hj : lv[j]? = some (i, .ref x)) (kk : hb_V p l e R s m args below meth c nL cl kd N ad D dA Qo μ (pc + 2) lv (.ref x :: st) b) : hb_V p l e R s m args below meth c nL cl kd N ad D dA Qo μ pc lv st b := fun out ho ls hl H locs hW hS => lv_aload hC.1.1 hC.1.2.1 hd (lv_at hl j hj) (kk out ho ls hl H locs hW hS)
theorem hr_astore_n (hC : hb_C p s m args meth c cc nL own Ts cl kd N ad D dA tb nw) {k : Fin 4} {i : Nat} {x : Nat} {lv' : List (Nat × Value)} (hd : decode cc pc = .ok (.astore_n k, 1)) (hi : (k : Nat) = i) (hn : i < nL) (hl : (i, Value.ref x) :: lv.filter (fun q => !(q.1 == i) && !(q.1 + 1 == i && q.2.category == 2)) = lv') (kk : hb_V p l e R s m args below meth c nL cl kd N ad D dA Qo μ (pc + 1) lv' st b) : hb_V p l e R s m args below meth c nL cl kd N ad D dA Qo μ pc lv (.ref x :: st) b := fun out ho ls h H locs hW hS => lv_astore_n hC.1.1 hC.1.2.1 hd hi h hn hl (fun ls' h' => kk out ho ls' h' H locs hW hS)
theorem hr_astore (hC : hb_C p s m args meth c cc nL own Ts cl kd N ad D dA tb nw) {i : Nat} {x : Nat} {lv' : List (Nat × Value)} (hd : decode cc pc = .ok (.astore i, 2))  (hn : i < nL) (hl : (i, Value.ref x) :: lv.filter (fun q => !(q.1 == i) && !(q.1 + 1 == i && q.2.category == 2)) = lv') (kk : hb_V p l e R s m args below meth c nL cl kd N ad D dA Qo μ (pc + 2) lv' st b) : hb_V p l e R s m args below meth c nL cl kd N ad D dA Qo μ pc lv (.ref x :: st) b := fun out ho ls h H locs hW hS => lv_astore hC.1.1 hC.1.2.1 hd  h hn hl (fun ls' h' => kk out ho ls' h' H locs hW hS)
theorem hr_iinc (hC : hb_C p s m args meth c cc nL own Ts cl kd N ad D dA tb nw) {i kx : Nat} {n : Int} {x v : Int32} {lv' : List (Nat × Value)} (hd : decode cc pc = .ok (.iinc i n, 3)) (hk : lv[kx]? = some (i, .int x)) (hv : x + Int32.ofInt n = v) (hn : i < nL) (hl : (i, Value.int v) :: lv.filter (fun q => !(q.1 == i) && !(q.1 + 1 == i && q.2.category == 2)) = lv') (kk : hb_V p l e R s m args below meth c nL cl kd N ad D dA Qo μ (pc + 3) lv' st b) : hb_V p l e R s m args below meth c nL cl kd N ad D dA Qo μ pc lv st b := fun out ho ls h H locs hW hS => lv_iinc hC.1.1 hC.1.2.1 hd h hk hv hn hl (fun ls' h' => kk out ho ls' h' H locs hW hS)
theorem hr_iadd (hC : hb_C p s m args meth c cc nL own Ts cl kd N ad D dA tb nw) {x y : Int32} (hd : decode cc pc = .ok (.iadd, 1))  (k : hb_V p l e R s m args below meth c nL cl kd N ad D dA Qo μ (pc + 1) lv (.int (x + y) :: st) b) : hb_V p l e R s m args below meth c nL cl kd N ad D dA Qo μ pc lv (.int y :: .int x :: st) b := fun out ho ls hl H locs hW hS => lv_iadd hC.1.1 hC.1.2.1 hd  (k out ho ls hl H locs hW hS)
theorem hr_isub (hC : hb_C p s m args meth c cc nL own Ts cl kd N ad D dA tb nw) {x y : Int32} (hd : decode cc pc = .ok (.isub, 1))  (k : hb_V p l e R s m args below meth c nL cl kd N ad D dA Qo μ (pc + 1) lv (.int (x - y) :: st) b) : hb_V p l e R s m args below meth c nL cl kd N ad D dA Qo μ pc lv (.int y :: .int x :: st) b := fun out ho ls hl H locs hW hS => lv_isub hC.1.1 hC.1.2.1 hd  (k out ho ls hl H locs hW hS)
theorem hr_imul (hC : hb_C p s m args meth c cc nL own Ts cl kd N ad D dA tb nw) {x y : Int32} (hd : decode cc pc = .ok (.imul, 1))  (k : hb_V p l e R s m args below meth c nL cl kd N ad D dA Qo μ (pc + 1) lv (.int (x * y) :: st) b) : hb_V p l e R s m args below meth c nL cl kd N ad D dA Qo μ pc lv (.int y :: .int x :: st) b := fun out ho ls hl H locs hW hS => lv_imul hC.1.1 hC.1.2.1 hd  (k out ho ls hl H locs hW hS)
theorem hr_iand (hC : hb_C p s m args meth c cc nL own Ts cl kd N ad D dA tb nw) {x y : Int32} (hd : decode cc pc = .ok (.iand, 1))  (k : hb_V p l e R s m args below meth c nL cl kd N ad D dA Qo μ (pc + 1) lv (.int (x &&& y) :: st) b) : hb_V p l e R s m args below meth c nL cl kd N ad D dA Qo μ pc lv (.int y :: .int x :: st) b := fun out ho ls hl H locs hW hS => lv_iand hC.1.1 hC.1.2.1 hd  (k out ho ls hl H locs hW hS)
theorem hr_ior (hC : hb_C p s m args meth c cc nL own Ts cl kd N ad D dA tb nw) {x y : Int32} (hd : decode cc pc = .ok (.ior, 1))  (k : hb_V p l e R s m args below meth c nL cl kd N ad D dA Qo μ (pc + 1) lv (.int (x ||| y) :: st) b) : hb_V p l e R s m args below meth c nL cl kd N ad D dA Qo μ pc lv (.int y :: .int x :: st) b := fun out ho ls hl H locs hW hS => lv_ior hC.1.1 hC.1.2.1 hd  (k out ho ls hl H locs hW hS)
theorem hr_ladd (hC : hb_C p s m args meth c cc nL own Ts cl kd N ad D dA tb nw) {x y : Int64} (hd : decode cc pc = .ok (.ladd, 1))  (k : hb_V p l e R s m args below meth c nL cl kd N ad D dA Qo μ (pc + 1) lv (.long (x + y) :: st) b) : hb_V p l e R s m args below meth c nL cl kd N ad D dA Qo μ pc lv (.long y :: .long x :: st) b := fun out ho ls hl H locs hW hS => lv_ladd hC.1.1 hC.1.2.1 hd  (k out ho ls hl H locs hW hS)
theorem hr_lmul (hC : hb_C p s m args meth c cc nL own Ts cl kd N ad D dA tb nw) {x y : Int64} (hd : decode cc pc = .ok (.lmul, 1))  (k : hb_V p l e R s m args below meth c nL cl kd N ad D dA Qo μ (pc + 1) lv (.long (x * y) :: st) b) : hb_V p l e R s m args below meth c nL cl kd N ad D dA Qo μ pc lv (.long y :: .long x :: st) b := fun out ho ls hl H locs hW hS => lv_lmul hC.1.1 hC.1.2.1 hd  (k out ho ls hl H locs hW hS)
theorem hr_ishl (hC : hb_C p s m args meth c cc nL own Ts cl kd N ad D dA tb nw) {x y : Int32} (hd : decode cc pc = .ok (.ishl, 1))  (k : hb_V p l e R s m args below meth c nL cl kd N ad D dA Qo μ (pc + 1) lv (.int (x <<< (y &&& 31)) :: st) b) : hb_V p l e R s m args below meth c nL cl kd N ad D dA Qo μ pc lv (.int y :: .int x :: st) b := fun out ho ls hl H locs hW hS => lv_ishl hC.1.1 hC.1.2.1 hd  (k out ho ls hl H locs hW hS)
theorem hr_ishr (hC : hb_C p s m args meth c cc nL own Ts cl kd N ad D dA tb nw) {x y : Int32} (hd : decode cc pc = .ok (.ishr, 1))  (k : hb_V p l e R s m args below meth c nL cl kd N ad D dA Qo μ (pc + 1) lv (.int (x >>> (y &&& 31)) :: st) b) : hb_V p l e R s m args below meth c nL cl kd N ad D dA Qo μ pc lv (.int y :: .int x :: st) b := fun out ho ls hl H locs hW hS => lv_ishr hC.1.1 hC.1.2.1 hd  (k out ho ls hl H locs hW hS)
theorem hr_ixor (hC : hb_C p s m args meth c cc nL own Ts cl kd N ad D dA tb nw) {x y : Int32} (hd : decode cc pc = .ok (.ixor, 1))  (k : hb_V p l e R s m args below meth c nL cl kd N ad D dA Qo μ (pc + 1) lv (.int (x ^^^ y) :: st) b) : hb_V p l e R s m args below meth c nL cl kd N ad D dA Qo μ pc lv (.int y :: .int x :: st) b := fun out ho ls hl H locs hW hS => lv_ixor hC.1.1 hC.1.2.1 hd  (k out ho ls hl H locs hW hS)
theorem hr_land (hC : hb_C p s m args meth c cc nL own Ts cl kd N ad D dA tb nw) {x y : Int64} (hd : decode cc pc = .ok (.land, 1))  (k : hb_V p l e R s m args below meth c nL cl kd N ad D dA Qo μ (pc + 1) lv (.long (x &&& y) :: st) b) : hb_V p l e R s m args below meth c nL cl kd N ad D dA Qo μ pc lv (.long y :: .long x :: st) b := fun out ho ls hl H locs hW hS => lv_land hC.1.1 hC.1.2.1 hd  (k out ho ls hl H locs hW hS)
theorem hr_idiv (hC : hb_C p s m args meth c cc nL own Ts cl kd N ad D dA tb nw) {x y : Int32} (hd : decode cc pc = .ok (.idiv, 1)) (hne : ¬ y = 0) (k : hb_V p l e R s m args below meth c nL cl kd N ad D dA Qo μ (pc + 1) lv (.int (x / y) :: st) b) : hb_V p l e R s m args below meth c nL cl kd N ad D dA Qo μ pc lv (.int y :: .int x :: st) b := fun out ho ls hl H locs hW hS => lv_idiv hC.1.1 hC.1.2.1 hd hne (k out ho ls hl H locs hW hS)
theorem hr_idivZ (hC : hb_C p s m args meth c cc nL own Ts cl kd N ad D dA tb nw) {x y : Int32} (hd : decode cc pc = .ok (.idiv, 1)) (k : hb_V p l e R s m args below meth c nL cl kd N ad D dA Qo μ (pc + 1) lv (.int (x / y) :: st) b) : hb_V p l e R s m args below meth c nL cl kd N ad D dA Qo μ pc lv (.int y :: .int x :: st) (if y = 0 then none else b) := fun out ho => by
  by_cases hy : y = 0
  · rw [if_pos hy] at ho; cases ho
  · rw [if_neg hy] at ho
    exact hr_idiv hC hd hy k out ho
theorem hr_irem (hC : hb_C p s m args meth c cc nL own Ts cl kd N ad D dA tb nw) {x y : Int32} (hd : decode cc pc = .ok (.irem, 1)) (hne : ¬ y = 0) (k : hb_V p l e R s m args below meth c nL cl kd N ad D dA Qo μ (pc + 1) lv (.int (x - x / y * y) :: st) b) : hb_V p l e R s m args below meth c nL cl kd N ad D dA Qo μ pc lv (.int y :: .int x :: st) b := fun out ho ls hl H locs hW hS => lv_irem hC.1.1 hC.1.2.1 hd hne (k out ho ls hl H locs hW hS)
theorem hr_iremZ (hC : hb_C p s m args meth c cc nL own Ts cl kd N ad D dA tb nw) {x y : Int32} (hd : decode cc pc = .ok (.irem, 1)) (k : hb_V p l e R s m args below meth c nL cl kd N ad D dA Qo μ (pc + 1) lv (.int (x - x / y * y) :: st) b) : hb_V p l e R s m args below meth c nL cl kd N ad D dA Qo μ pc lv (.int y :: .int x :: st) (if y = 0 then none else b) := fun out ho => by
  by_cases hy : y = 0
  · rw [if_pos hy] at ho; cases ho
  · rw [if_neg hy] at ho
    exact hr_irem hC hd hy k out ho
theorem hr_ldiv (hC : hb_C p s m args meth c cc nL own Ts cl kd N ad D dA tb nw) {x y : Int64} (hd : decode cc pc = .ok (.ldiv, 1)) (hne : ¬ y = 0) (k : hb_V p l e R s m args below meth c nL cl kd N ad D dA Qo μ (pc + 1) lv (.long (x / y) :: st) b) : hb_V p l e R s m args below meth c nL cl kd N ad D dA Qo μ pc lv (.long y :: .long x :: st) b := fun out ho ls hl H locs hW hS => lv_ldiv hC.1.1 hC.1.2.1 hd hne (k out ho ls hl H locs hW hS)
theorem hr_ldivZ (hC : hb_C p s m args meth c cc nL own Ts cl kd N ad D dA tb nw) {x y : Int64} (hd : decode cc pc = .ok (.ldiv, 1)) (k : hb_V p l e R s m args below meth c nL cl kd N ad D dA Qo μ (pc + 1) lv (.long (x / y) :: st) b) : hb_V p l e R s m args below meth c nL cl kd N ad D dA Qo μ pc lv (.long y :: .long x :: st) (if y = 0 then none else b) := fun out ho => by
  by_cases hy : y = 0
  · rw [if_pos hy] at ho; cases ho
  · rw [if_neg hy] at ho
    exact hr_ldiv hC hd hy k out ho
theorem hr_lrem (hC : hb_C p s m args meth c cc nL own Ts cl kd N ad D dA tb nw) {x y : Int64} (hd : decode cc pc = .ok (.lrem, 1)) (hne : ¬ y = 0) (k : hb_V p l e R s m args below meth c nL cl kd N ad D dA Qo μ (pc + 1) lv (.long (x - x / y * y) :: st) b) : hb_V p l e R s m args below meth c nL cl kd N ad D dA Qo μ pc lv (.long y :: .long x :: st) b := fun out ho ls hl H locs hW hS => lv_lrem hC.1.1 hC.1.2.1 hd hne (k out ho ls hl H locs hW hS)
theorem hr_lremZ (hC : hb_C p s m args meth c cc nL own Ts cl kd N ad D dA tb nw) {x y : Int64} (hd : decode cc pc = .ok (.lrem, 1)) (k : hb_V p l e R s m args below meth c nL cl kd N ad D dA Qo μ (pc + 1) lv (.long (x - x / y * y) :: st) b) : hb_V p l e R s m args below meth c nL cl kd N ad D dA Qo μ pc lv (.long y :: .long x :: st) (if y = 0 then none else b) := fun out ho => by
  by_cases hy : y = 0
  · rw [if_pos hy] at ho; cases ho
  · rw [if_neg hy] at ho
    exact hr_lrem hC hd hy k out ho
theorem hr_lshr (hC : hb_C p s m args meth c cc nL own Ts cl kd N ad D dA tb nw) {x : Int64} {y : Int32} (hd : decode cc pc = .ok (.lshr, 1))  (k : hb_V p l e R s m args below meth c nL cl kd N ad D dA Qo μ (pc + 1) lv (.long (x >>> (y.toInt64 &&& 63)) :: st) b) : hb_V p l e R s m args below meth c nL cl kd N ad D dA Qo μ pc lv (.int y :: .long x :: st) b := fun out ho ls hl H locs hW hS => lv_lshr hC.1.1 hC.1.2.1 hd rfl (k out ho ls hl H locs hW hS)
theorem hr_i2l (hC : hb_C p s m args meth c cc nL own Ts cl kd N ad D dA tb nw) {x : Int32} (hd : decode cc pc = .ok (.i2l, 1))  (k : hb_V p l e R s m args below meth c nL cl kd N ad D dA Qo μ (pc + 1) lv (.long x.toInt64 :: st) b) : hb_V p l e R s m args below meth c nL cl kd N ad D dA Qo μ pc lv (.int x :: st) b := fun out ho ls hl H locs hW hS => lv_i2l hC.1.1 hC.1.2.1 hd rfl (k out ho ls hl H locs hW hS)
theorem hr_l2i (hC : hb_C p s m args meth c cc nL own Ts cl kd N ad D dA tb nw) {x : Int64} (hd : decode cc pc = .ok (.l2i, 1))  (k : hb_V p l e R s m args below meth c nL cl kd N ad D dA Qo μ (pc + 1) lv (.int x.toInt32 :: st) b) : hb_V p l e R s m args below meth c nL cl kd N ad D dA Qo μ pc lv (.long x :: st) b := fun out ho ls hl H locs hW hS => lv_l2i hC.1.1 hC.1.2.1 hd rfl (k out ho ls hl H locs hW hS)
theorem hr_i2c (hC : hb_C p s m args meth c cc nL own Ts cl kd N ad D dA tb nw) {x : Int32} (hd : decode cc pc = .ok (.i2c, 1))  (k : hb_V p l e R s m args below meth c nL cl kd N ad D dA Qo μ (pc + 1) lv (.int (x.toUInt32 % 65536).toInt32 :: st) b) : hb_V p l e R s m args below meth c nL cl kd N ad D dA Qo μ pc lv (.int x :: st) b := fun out ho ls hl H locs hW hS => lv_i2c hC.1.1 hC.1.2.1 hd rfl (k out ho ls hl H locs hW hS)
theorem hr_lcmp (hC : hb_C p s m args meth c cc nL own Ts cl kd N ad D dA tb nw) {x y : Int64} (hd : decode cc pc = .ok (.lcmp, 1))  (k : hb_V p l e R s m args below meth c nL cl kd N ad D dA Qo μ (pc + 1) lv (.int (lg_cmp x y) :: st) b) : hb_V p l e R s m args below meth c nL cl kd N ad D dA Qo μ pc lv (.long y :: .long x :: st) b := fun out ho ls hl H locs hW hS => W.lcmp hC.1.1 hC.1.2.1 hd  (k out ho ls hl H locs hW hS)
theorem hr_dup (hC : hb_C p s m args meth c cc nL own Ts cl kd N ad D dA tb nw) {va : Value} (hd : decode cc pc = .ok (.dup, 1)) (hv : va.category = 1) (k : hb_V p l e R s m args below meth c nL cl kd N ad D dA Qo μ (pc + 1) lv (va :: va :: st) b) : hb_V p l e R s m args below meth c nL cl kd N ad D dA Qo μ pc lv (va :: st) b := fun out ho ls hl H locs hW hS => lv_dup hC.1.1 hC.1.2.1 hd hv (k out ho ls hl H locs hW hS)
theorem hr_dup2 (hC : hb_C p s m args meth c cc nL own Ts cl kd N ad D dA tb nw) {va vb : Value} (hd : decode cc pc = .ok (.dup2, 1)) (hv : va.category = 1) (hv2 : vb.category = 1) (k : hb_V p l e R s m args below meth c nL cl kd N ad D dA Qo μ (pc + 1) lv (va :: vb :: va :: vb :: st) b) : hb_V p l e R s m args below meth c nL cl kd N ad D dA Qo μ pc lv (va :: vb :: st) b := fun out ho ls hl H locs hW hS => lv_dup2_11 hC.1.1 hC.1.2.1 hd hv hv2 (k out ho ls hl H locs hW hS)
theorem hr_pop (hC : hb_C p s m args meth c cc nL own Ts cl kd N ad D dA tb nw) {va : Value} (hd : decode cc pc = .ok (.pop, 1)) (hv : va.category = 1) (k : hb_V p l e R s m args below meth c nL cl kd N ad D dA Qo μ (pc + 1) lv st b) : hb_V p l e R s m args below meth c nL cl kd N ad D dA Qo μ pc lv (va :: st) b := fun out ho ls hl H locs hW hS => lv_pop hC.1.1 hC.1.2.1 hd hv (k out ho ls hl H locs hW hS)
theorem hr_goto (hC : hb_C p s m args meth c cc nL own Ts cl kd N ad D dA tb nw) {off : Int} {tgt : Nat} (hd : decode cc pc = .ok (.goto off, 3)) (ht : (pc : Int) + off = (tgt : Int)) (k : hb_V p l e R s m args below meth c nL cl kd N ad D dA Qo μ tgt lv st b) : hb_V p l e R s m args below meth c nL cl kd N ad D dA Qo μ pc lv st b := fun out ho ls hl H locs hW hS => lv_goto hC.1.1 hC.1.2.1 hd ht (k out ho ls hl H locs hW hS)
theorem hr_icmp_eq (hC : hb_C p s m args meth c cc nL own Ts cl kd N ad D dA tb nw) {x y : Int32} {off : Int} {tgt : Nat} {b1 b2 : Option β} (hd : decode cc pc = .ok (.if_icmp .eq off, 3)) (ht : (pc : Int) + off = (tgt : Int)) (k1 : x = y → hb_V p l e R s m args below meth c nL cl kd N ad D dA Qo μ tgt lv st b1) (k2 : ¬ x = y → hb_V p l e R s m args below meth c nL cl kd N ad D dA Qo μ (pc + 3) lv st b2) : hb_V p l e R s m args below meth c nL cl kd N ad D dA Qo μ pc lv (.int y :: .int x :: st) (if x = y then b1 else b2) := by
  intro out ho ls hl H locs hW hS
  refine lv_icmp_eq hC.1.1 hC.1.2.1 hd ht (fun h => ?_) (fun h => ?_)
  · rw [if_pos h] at ho
    exact k1 h out ho ls hl H locs hW hS
  · rw [if_neg h] at ho
    exact k2 h out ho ls hl H locs hW hS
theorem hr_if_eq (hC : hb_C p s m args meth c cc nL own Ts cl kd N ad D dA tb nw) {x : Int32} {off : Int} {tgt : Nat} {b1 b2 : Option β} (hd : decode cc pc = .ok (.ifCond .eq off, 3)) (ht : (pc : Int) + off = (tgt : Int)) (k1 : x = 0 → hb_V p l e R s m args below meth c nL cl kd N ad D dA Qo μ tgt lv st b1) (k2 : ¬ x = 0 → hb_V p l e R s m args below meth c nL cl kd N ad D dA Qo μ (pc + 3) lv st b2) : hb_V p l e R s m args below meth c nL cl kd N ad D dA Qo μ pc lv (.int x :: st) (if x = 0 then b1 else b2) := by
  intro out ho ls hl H locs hW hS
  refine lv_if_eq hC.1.1 hC.1.2.1 hd ht (fun h => ?_) (fun h => ?_)
  · rw [if_pos h] at ho
    exact k1 h out ho ls hl H locs hW hS
  · rw [if_neg h] at ho
    exact k2 h out ho ls hl H locs hW hS
theorem hr_icmp_ne (hC : hb_C p s m args meth c cc nL own Ts cl kd N ad D dA tb nw) {x y : Int32} {off : Int} {tgt : Nat} {b1 b2 : Option β} (hd : decode cc pc = .ok (.if_icmp .ne off, 3)) (ht : (pc : Int) + off = (tgt : Int)) (k1 : x = y → hb_V p l e R s m args below meth c nL cl kd N ad D dA Qo μ (pc + 3) lv st b1) (k2 : ¬ x = y → hb_V p l e R s m args below meth c nL cl kd N ad D dA Qo μ tgt lv st b2) : hb_V p l e R s m args below meth c nL cl kd N ad D dA Qo μ pc lv (.int y :: .int x :: st) (if x = y then b1 else b2) := by
  intro out ho ls hl H locs hW hS
  refine lv_icmp_ne hC.1.1 hC.1.2.1 hd ht (fun h => ?_) (fun h => ?_)
  · rw [if_neg h] at ho
    exact k2 h out ho ls hl H locs hW hS
  · rw [if_pos h] at ho
    exact k1 h out ho ls hl H locs hW hS
theorem hr_if_ne (hC : hb_C p s m args meth c cc nL own Ts cl kd N ad D dA tb nw) {x : Int32} {off : Int} {tgt : Nat} {b1 b2 : Option β} (hd : decode cc pc = .ok (.ifCond .ne off, 3)) (ht : (pc : Int) + off = (tgt : Int)) (k1 : x = 0 → hb_V p l e R s m args below meth c nL cl kd N ad D dA Qo μ (pc + 3) lv st b1) (k2 : ¬ x = 0 → hb_V p l e R s m args below meth c nL cl kd N ad D dA Qo μ tgt lv st b2) : hb_V p l e R s m args below meth c nL cl kd N ad D dA Qo μ pc lv (.int x :: st) (if x = 0 then b1 else b2) := by
  intro out ho ls hl H locs hW hS
  refine lv_if_ne hC.1.1 hC.1.2.1 hd ht (fun h => ?_) (fun h => ?_)
  · rw [if_neg h] at ho
    exact k2 h out ho ls hl H locs hW hS
  · rw [if_pos h] at ho
    exact k1 h out ho ls hl H locs hW hS
theorem hr_icmp_lt (hC : hb_C p s m args meth c cc nL own Ts cl kd N ad D dA tb nw) {x y : Int32} {off : Int} {tgt : Nat} {b1 b2 : Option β} (hd : decode cc pc = .ok (.if_icmp .lt off, 3)) (ht : (pc : Int) + off = (tgt : Int)) (k1 : x < y → hb_V p l e R s m args below meth c nL cl kd N ad D dA Qo μ tgt lv st b1) (k2 : ¬ x < y → hb_V p l e R s m args below meth c nL cl kd N ad D dA Qo μ (pc + 3) lv st b2) : hb_V p l e R s m args below meth c nL cl kd N ad D dA Qo μ pc lv (.int y :: .int x :: st) (if x < y then b1 else b2) := by
  intro out ho ls hl H locs hW hS
  refine lv_icmp_lt hC.1.1 hC.1.2.1 hd ht (fun h => ?_) (fun h => ?_)
  · rw [if_pos h] at ho
    exact k1 h out ho ls hl H locs hW hS
  · rw [if_neg h] at ho
    exact k2 h out ho ls hl H locs hW hS
theorem hr_if_lt (hC : hb_C p s m args meth c cc nL own Ts cl kd N ad D dA tb nw) {x : Int32} {off : Int} {tgt : Nat} {b1 b2 : Option β} (hd : decode cc pc = .ok (.ifCond .lt off, 3)) (ht : (pc : Int) + off = (tgt : Int)) (k1 : x < 0 → hb_V p l e R s m args below meth c nL cl kd N ad D dA Qo μ tgt lv st b1) (k2 : ¬ x < 0 → hb_V p l e R s m args below meth c nL cl kd N ad D dA Qo μ (pc + 3) lv st b2) : hb_V p l e R s m args below meth c nL cl kd N ad D dA Qo μ pc lv (.int x :: st) (if x < 0 then b1 else b2) := by
  intro out ho ls hl H locs hW hS
  refine lv_if_lt hC.1.1 hC.1.2.1 hd ht (fun h => ?_) (fun h => ?_)
  · rw [if_pos h] at ho
    exact k1 h out ho ls hl H locs hW hS
  · rw [if_neg h] at ho
    exact k2 h out ho ls hl H locs hW hS
theorem hr_icmp_ge (hC : hb_C p s m args meth c cc nL own Ts cl kd N ad D dA tb nw) {x y : Int32} {off : Int} {tgt : Nat} {b1 b2 : Option β} (hd : decode cc pc = .ok (.if_icmp .ge off, 3)) (ht : (pc : Int) + off = (tgt : Int)) (k1 : y ≤ x → hb_V p l e R s m args below meth c nL cl kd N ad D dA Qo μ tgt lv st b1) (k2 : ¬ y ≤ x → hb_V p l e R s m args below meth c nL cl kd N ad D dA Qo μ (pc + 3) lv st b2) : hb_V p l e R s m args below meth c nL cl kd N ad D dA Qo μ pc lv (.int y :: .int x :: st) (if y ≤ x then b1 else b2) := by
  intro out ho ls hl H locs hW hS
  refine lv_icmp_ge hC.1.1 hC.1.2.1 hd ht (fun h => ?_) (fun h => ?_)
  · rw [if_pos h] at ho
    exact k1 h out ho ls hl H locs hW hS
  · rw [if_neg h] at ho
    exact k2 h out ho ls hl H locs hW hS
theorem hr_if_ge (hC : hb_C p s m args meth c cc nL own Ts cl kd N ad D dA tb nw) {x : Int32} {off : Int} {tgt : Nat} {b1 b2 : Option β} (hd : decode cc pc = .ok (.ifCond .ge off, 3)) (ht : (pc : Int) + off = (tgt : Int)) (k1 : 0 ≤ x → hb_V p l e R s m args below meth c nL cl kd N ad D dA Qo μ tgt lv st b1) (k2 : ¬ 0 ≤ x → hb_V p l e R s m args below meth c nL cl kd N ad D dA Qo μ (pc + 3) lv st b2) : hb_V p l e R s m args below meth c nL cl kd N ad D dA Qo μ pc lv (.int x :: st) (if 0 ≤ x then b1 else b2) := by
  intro out ho ls hl H locs hW hS
  refine lv_if_ge hC.1.1 hC.1.2.1 hd ht (fun h => ?_) (fun h => ?_)
  · rw [if_pos h] at ho
    exact k1 h out ho ls hl H locs hW hS
  · rw [if_neg h] at ho
    exact k2 h out ho ls hl H locs hW hS
theorem hr_icmp_gt (hC : hb_C p s m args meth c cc nL own Ts cl kd N ad D dA tb nw) {x y : Int32} {off : Int} {tgt : Nat} {b1 b2 : Option β} (hd : decode cc pc = .ok (.if_icmp .gt off, 3)) (ht : (pc : Int) + off = (tgt : Int)) (k1 : y < x → hb_V p l e R s m args below meth c nL cl kd N ad D dA Qo μ tgt lv st b1) (k2 : ¬ y < x → hb_V p l e R s m args below meth c nL cl kd N ad D dA Qo μ (pc + 3) lv st b2) : hb_V p l e R s m args below meth c nL cl kd N ad D dA Qo μ pc lv (.int y :: .int x :: st) (if y < x then b1 else b2) := by
  intro out ho ls hl H locs hW hS
  refine lv_icmp_gt hC.1.1 hC.1.2.1 hd ht (fun h => ?_) (fun h => ?_)
  · rw [if_pos h] at ho
    exact k1 h out ho ls hl H locs hW hS
  · rw [if_neg h] at ho
    exact k2 h out ho ls hl H locs hW hS
theorem hr_if_gt (hC : hb_C p s m args meth c cc nL own Ts cl kd N ad D dA tb nw) {x : Int32} {off : Int} {tgt : Nat} {b1 b2 : Option β} (hd : decode cc pc = .ok (.ifCond .gt off, 3)) (ht : (pc : Int) + off = (tgt : Int)) (k1 : 0 < x → hb_V p l e R s m args below meth c nL cl kd N ad D dA Qo μ tgt lv st b1) (k2 : ¬ 0 < x → hb_V p l e R s m args below meth c nL cl kd N ad D dA Qo μ (pc + 3) lv st b2) : hb_V p l e R s m args below meth c nL cl kd N ad D dA Qo μ pc lv (.int x :: st) (if 0 < x then b1 else b2) := by
  intro out ho ls hl H locs hW hS
  refine lv_if_gt hC.1.1 hC.1.2.1 hd ht (fun h => ?_) (fun h => ?_)
  · rw [if_pos h] at ho
    exact k1 h out ho ls hl H locs hW hS
  · rw [if_neg h] at ho
    exact k2 h out ho ls hl H locs hW hS
theorem hr_icmp_le (hC : hb_C p s m args meth c cc nL own Ts cl kd N ad D dA tb nw) {x y : Int32} {off : Int} {tgt : Nat} {b1 b2 : Option β} (hd : decode cc pc = .ok (.if_icmp .le off, 3)) (ht : (pc : Int) + off = (tgt : Int)) (k1 : x ≤ y → hb_V p l e R s m args below meth c nL cl kd N ad D dA Qo μ tgt lv st b1) (k2 : ¬ x ≤ y → hb_V p l e R s m args below meth c nL cl kd N ad D dA Qo μ (pc + 3) lv st b2) : hb_V p l e R s m args below meth c nL cl kd N ad D dA Qo μ pc lv (.int y :: .int x :: st) (if x ≤ y then b1 else b2) := by
  intro out ho ls hl H locs hW hS
  refine lv_icmp_le hC.1.1 hC.1.2.1 hd ht (fun h => ?_) (fun h => ?_)
  · rw [if_pos h] at ho
    exact k1 h out ho ls hl H locs hW hS
  · rw [if_neg h] at ho
    exact k2 h out ho ls hl H locs hW hS
theorem hr_if_le (hC : hb_C p s m args meth c cc nL own Ts cl kd N ad D dA tb nw) {x : Int32} {off : Int} {tgt : Nat} {b1 b2 : Option β} (hd : decode cc pc = .ok (.ifCond .le off, 3)) (ht : (pc : Int) + off = (tgt : Int)) (k1 : x ≤ 0 → hb_V p l e R s m args below meth c nL cl kd N ad D dA Qo μ tgt lv st b1) (k2 : ¬ x ≤ 0 → hb_V p l e R s m args below meth c nL cl kd N ad D dA Qo μ (pc + 3) lv st b2) : hb_V p l e R s m args below meth c nL cl kd N ad D dA Qo μ pc lv (.int x :: st) (if x ≤ 0 then b1 else b2) := by
  intro out ho ls hl H locs hW hS
  refine lv_if_le hC.1.1 hC.1.2.1 hd ht (fun h => ?_) (fun h => ?_)
  · rw [if_pos h] at ho
    exact k1 h out ho ls hl H locs hW hS
  · rw [if_neg h] at ho
    exact k2 h out ho ls hl H locs hW hS
theorem hr_if_eqT (hC : hb_C p s m args meth c cc nL own Ts cl kd N ad D dA tb nw) {x : Int32} {off : Int} {tgt : Nat} (hd : decode cc pc = .ok (.ifCond .eq off, 3)) (ht : (pc : Int) + off = (tgt : Int)) (h : x = 0) (k : hb_V p l e R s m args below meth c nL cl kd N ad D dA Qo μ tgt lv st b) : hb_V p l e R s m args below meth c nL cl kd N ad D dA Qo μ pc lv (.int x :: st) b := fun out ho ls hl H locs hW hS => lv_if_eq hC.1.1 hC.1.2.1 hd ht (fun _ => k out ho ls hl H locs hW hS) (fun q => absurd h q)
theorem hr_if_eqF (hC : hb_C p s m args meth c cc nL own Ts cl kd N ad D dA tb nw) {x : Int32} {off : Int} {tgt : Nat} (hd : decode cc pc = .ok (.ifCond .eq off, 3)) (ht : (pc : Int) + off = (tgt : Int)) (h : ¬ x = 0) (k : hb_V p l e R s m args below meth c nL cl kd N ad D dA Qo μ (pc + 3) lv st b) : hb_V p l e R s m args below meth c nL cl kd N ad D dA Qo μ pc lv (.int x :: st) b := fun out ho ls hl H locs hW hS => lv_if_eq hC.1.1 hC.1.2.1 hd ht (fun q => absurd q h) (fun _ => k out ho ls hl H locs hW hS)
theorem hr_if_neT (hC : hb_C p s m args meth c cc nL own Ts cl kd N ad D dA tb nw) {x : Int32} {off : Int} {tgt : Nat} (hd : decode cc pc = .ok (.ifCond .ne off, 3)) (ht : (pc : Int) + off = (tgt : Int)) (h : ¬ x = 0) (k : hb_V p l e R s m args below meth c nL cl kd N ad D dA Qo μ tgt lv st b) : hb_V p l e R s m args below meth c nL cl kd N ad D dA Qo μ pc lv (.int x :: st) b := fun out ho ls hl H locs hW hS => lv_if_ne hC.1.1 hC.1.2.1 hd ht (fun _ => k out ho ls hl H locs hW hS) (fun q => absurd q h)
theorem hr_if_neF (hC : hb_C p s m args meth c cc nL own Ts cl kd N ad D dA tb nw) {x : Int32} {off : Int} {tgt : Nat} (hd : decode cc pc = .ok (.ifCond .ne off, 3)) (ht : (pc : Int) + off = (tgt : Int)) (h : ¬ ¬ x = 0) (k : hb_V p l e R s m args below meth c nL cl kd N ad D dA Qo μ (pc + 3) lv st b) : hb_V p l e R s m args below meth c nL cl kd N ad D dA Qo μ pc lv (.int x :: st) b := fun out ho ls hl H locs hW hS => lv_if_ne hC.1.1 hC.1.2.1 hd ht (fun q => absurd q h) (fun _ => k out ho ls hl H locs hW hS)
theorem hr_if_ltT (hC : hb_C p s m args meth c cc nL own Ts cl kd N ad D dA tb nw) {x : Int32} {off : Int} {tgt : Nat} (hd : decode cc pc = .ok (.ifCond .lt off, 3)) (ht : (pc : Int) + off = (tgt : Int)) (h : x < 0) (k : hb_V p l e R s m args below meth c nL cl kd N ad D dA Qo μ tgt lv st b) : hb_V p l e R s m args below meth c nL cl kd N ad D dA Qo μ pc lv (.int x :: st) b := fun out ho ls hl H locs hW hS => lv_if_lt hC.1.1 hC.1.2.1 hd ht (fun _ => k out ho ls hl H locs hW hS) (fun q => absurd h q)
theorem hr_if_ltF (hC : hb_C p s m args meth c cc nL own Ts cl kd N ad D dA tb nw) {x : Int32} {off : Int} {tgt : Nat} (hd : decode cc pc = .ok (.ifCond .lt off, 3)) (ht : (pc : Int) + off = (tgt : Int)) (h : ¬ x < 0) (k : hb_V p l e R s m args below meth c nL cl kd N ad D dA Qo μ (pc + 3) lv st b) : hb_V p l e R s m args below meth c nL cl kd N ad D dA Qo μ pc lv (.int x :: st) b := fun out ho ls hl H locs hW hS => lv_if_lt hC.1.1 hC.1.2.1 hd ht (fun q => absurd q h) (fun _ => k out ho ls hl H locs hW hS)
theorem hr_if_geT (hC : hb_C p s m args meth c cc nL own Ts cl kd N ad D dA tb nw) {x : Int32} {off : Int} {tgt : Nat} (hd : decode cc pc = .ok (.ifCond .ge off, 3)) (ht : (pc : Int) + off = (tgt : Int)) (h : 0 ≤ x) (k : hb_V p l e R s m args below meth c nL cl kd N ad D dA Qo μ tgt lv st b) : hb_V p l e R s m args below meth c nL cl kd N ad D dA Qo μ pc lv (.int x :: st) b := fun out ho ls hl H locs hW hS => lv_if_ge hC.1.1 hC.1.2.1 hd ht (fun _ => k out ho ls hl H locs hW hS) (fun q => absurd h q)
theorem hr_if_geF (hC : hb_C p s m args meth c cc nL own Ts cl kd N ad D dA tb nw) {x : Int32} {off : Int} {tgt : Nat} (hd : decode cc pc = .ok (.ifCond .ge off, 3)) (ht : (pc : Int) + off = (tgt : Int)) (h : ¬ 0 ≤ x) (k : hb_V p l e R s m args below meth c nL cl kd N ad D dA Qo μ (pc + 3) lv st b) : hb_V p l e R s m args below meth c nL cl kd N ad D dA Qo μ pc lv (.int x :: st) b := fun out ho ls hl H locs hW hS => lv_if_ge hC.1.1 hC.1.2.1 hd ht (fun q => absurd q h) (fun _ => k out ho ls hl H locs hW hS)
theorem hr_if_gtT (hC : hb_C p s m args meth c cc nL own Ts cl kd N ad D dA tb nw) {x : Int32} {off : Int} {tgt : Nat} (hd : decode cc pc = .ok (.ifCond .gt off, 3)) (ht : (pc : Int) + off = (tgt : Int)) (h : 0 < x) (k : hb_V p l e R s m args below meth c nL cl kd N ad D dA Qo μ tgt lv st b) : hb_V p l e R s m args below meth c nL cl kd N ad D dA Qo μ pc lv (.int x :: st) b := fun out ho ls hl H locs hW hS => lv_if_gt hC.1.1 hC.1.2.1 hd ht (fun _ => k out ho ls hl H locs hW hS) (fun q => absurd h q)
theorem hr_if_gtF (hC : hb_C p s m args meth c cc nL own Ts cl kd N ad D dA tb nw) {x : Int32} {off : Int} {tgt : Nat} (hd : decode cc pc = .ok (.ifCond .gt off, 3)) (ht : (pc : Int) + off = (tgt : Int)) (h : ¬ 0 < x) (k : hb_V p l e R s m args below meth c nL cl kd N ad D dA Qo μ (pc + 3) lv st b) : hb_V p l e R s m args below meth c nL cl kd N ad D dA Qo μ pc lv (.int x :: st) b := fun out ho ls hl H locs hW hS => lv_if_gt hC.1.1 hC.1.2.1 hd ht (fun q => absurd q h) (fun _ => k out ho ls hl H locs hW hS)
theorem hr_if_leT (hC : hb_C p s m args meth c cc nL own Ts cl kd N ad D dA tb nw) {x : Int32} {off : Int} {tgt : Nat} (hd : decode cc pc = .ok (.ifCond .le off, 3)) (ht : (pc : Int) + off = (tgt : Int)) (h : x ≤ 0) (k : hb_V p l e R s m args below meth c nL cl kd N ad D dA Qo μ tgt lv st b) : hb_V p l e R s m args below meth c nL cl kd N ad D dA Qo μ pc lv (.int x :: st) b := fun out ho ls hl H locs hW hS => lv_if_le hC.1.1 hC.1.2.1 hd ht (fun _ => k out ho ls hl H locs hW hS) (fun q => absurd h q)
theorem hr_if_leF (hC : hb_C p s m args meth c cc nL own Ts cl kd N ad D dA tb nw) {x : Int32} {off : Int} {tgt : Nat} (hd : decode cc pc = .ok (.ifCond .le off, 3)) (ht : (pc : Int) + off = (tgt : Int)) (h : ¬ x ≤ 0) (k : hb_V p l e R s m args below meth c nL cl kd N ad D dA Qo μ (pc + 3) lv st b) : hb_V p l e R s m args below meth c nL cl kd N ad D dA Qo μ pc lv (.int x :: st) b := fun out ho ls hl H locs hW hS => lv_if_le hC.1.1 hC.1.2.1 hd ht (fun q => absurd q h) (fun _ => k out ho ls hl H locs hW hS)
theorem hr_icmp_eqT (hC : hb_C p s m args meth c cc nL own Ts cl kd N ad D dA tb nw) {x y : Int32} {off : Int} {tgt : Nat} (hd : decode cc pc = .ok (.if_icmp .eq off, 3)) (ht : (pc : Int) + off = (tgt : Int)) (h : x = y) (k : hb_V p l e R s m args below meth c nL cl kd N ad D dA Qo μ tgt lv st b) : hb_V p l e R s m args below meth c nL cl kd N ad D dA Qo μ pc lv (.int y :: .int x :: st) b := fun out ho ls hl H locs hW hS => lv_icmp_eq hC.1.1 hC.1.2.1 hd ht (fun _ => k out ho ls hl H locs hW hS) (fun q => absurd h q)
theorem hr_icmp_eqF (hC : hb_C p s m args meth c cc nL own Ts cl kd N ad D dA tb nw) {x y : Int32} {off : Int} {tgt : Nat} (hd : decode cc pc = .ok (.if_icmp .eq off, 3)) (ht : (pc : Int) + off = (tgt : Int)) (h : ¬ x = y) (k : hb_V p l e R s m args below meth c nL cl kd N ad D dA Qo μ (pc + 3) lv st b) : hb_V p l e R s m args below meth c nL cl kd N ad D dA Qo μ pc lv (.int y :: .int x :: st) b := fun out ho ls hl H locs hW hS => lv_icmp_eq hC.1.1 hC.1.2.1 hd ht (fun q => absurd q h) (fun _ => k out ho ls hl H locs hW hS)
theorem hr_icmp_neT (hC : hb_C p s m args meth c cc nL own Ts cl kd N ad D dA tb nw) {x y : Int32} {off : Int} {tgt : Nat} (hd : decode cc pc = .ok (.if_icmp .ne off, 3)) (ht : (pc : Int) + off = (tgt : Int)) (h : ¬ x = y) (k : hb_V p l e R s m args below meth c nL cl kd N ad D dA Qo μ tgt lv st b) : hb_V p l e R s m args below meth c nL cl kd N ad D dA Qo μ pc lv (.int y :: .int x :: st) b := fun out ho ls hl H locs hW hS => lv_icmp_ne hC.1.1 hC.1.2.1 hd ht (fun _ => k out ho ls hl H locs hW hS) (fun q => absurd q h)
theorem hr_icmp_neF (hC : hb_C p s m args meth c cc nL own Ts cl kd N ad D dA tb nw) {x y : Int32} {off : Int} {tgt : Nat} (hd : decode cc pc = .ok (.if_icmp .ne off, 3)) (ht : (pc : Int) + off = (tgt : Int)) (h : ¬ ¬ x = y) (k : hb_V p l e R s m args below meth c nL cl kd N ad D dA Qo μ (pc + 3) lv st b) : hb_V p l e R s m args below meth c nL cl kd N ad D dA Qo μ pc lv (.int y :: .int x :: st) b := fun out ho ls hl H locs hW hS => lv_icmp_ne hC.1.1 hC.1.2.1 hd ht (fun q => absurd q h) (fun _ => k out ho ls hl H locs hW hS)
theorem hr_icmp_ltT (hC : hb_C p s m args meth c cc nL own Ts cl kd N ad D dA tb nw) {x y : Int32} {off : Int} {tgt : Nat} (hd : decode cc pc = .ok (.if_icmp .lt off, 3)) (ht : (pc : Int) + off = (tgt : Int)) (h : x < y) (k : hb_V p l e R s m args below meth c nL cl kd N ad D dA Qo μ tgt lv st b) : hb_V p l e R s m args below meth c nL cl kd N ad D dA Qo μ pc lv (.int y :: .int x :: st) b := fun out ho ls hl H locs hW hS => lv_icmp_lt hC.1.1 hC.1.2.1 hd ht (fun _ => k out ho ls hl H locs hW hS) (fun q => absurd h q)
theorem hr_icmp_ltF (hC : hb_C p s m args meth c cc nL own Ts cl kd N ad D dA tb nw) {x y : Int32} {off : Int} {tgt : Nat} (hd : decode cc pc = .ok (.if_icmp .lt off, 3)) (ht : (pc : Int) + off = (tgt : Int)) (h : ¬ x < y) (k : hb_V p l e R s m args below meth c nL cl kd N ad D dA Qo μ (pc + 3) lv st b) : hb_V p l e R s m args below meth c nL cl kd N ad D dA Qo μ pc lv (.int y :: .int x :: st) b := fun out ho ls hl H locs hW hS => lv_icmp_lt hC.1.1 hC.1.2.1 hd ht (fun q => absurd q h) (fun _ => k out ho ls hl H locs hW hS)
theorem hr_icmp_geT (hC : hb_C p s m args meth c cc nL own Ts cl kd N ad D dA tb nw) {x y : Int32} {off : Int} {tgt : Nat} (hd : decode cc pc = .ok (.if_icmp .ge off, 3)) (ht : (pc : Int) + off = (tgt : Int)) (h : y ≤ x) (k : hb_V p l e R s m args below meth c nL cl kd N ad D dA Qo μ tgt lv st b) : hb_V p l e R s m args below meth c nL cl kd N ad D dA Qo μ pc lv (.int y :: .int x :: st) b := fun out ho ls hl H locs hW hS => lv_icmp_ge hC.1.1 hC.1.2.1 hd ht (fun _ => k out ho ls hl H locs hW hS) (fun q => absurd h q)
theorem hr_icmp_geF (hC : hb_C p s m args meth c cc nL own Ts cl kd N ad D dA tb nw) {x y : Int32} {off : Int} {tgt : Nat} (hd : decode cc pc = .ok (.if_icmp .ge off, 3)) (ht : (pc : Int) + off = (tgt : Int)) (h : ¬ y ≤ x) (k : hb_V p l e R s m args below meth c nL cl kd N ad D dA Qo μ (pc + 3) lv st b) : hb_V p l e R s m args below meth c nL cl kd N ad D dA Qo μ pc lv (.int y :: .int x :: st) b := fun out ho ls hl H locs hW hS => lv_icmp_ge hC.1.1 hC.1.2.1 hd ht (fun q => absurd q h) (fun _ => k out ho ls hl H locs hW hS)
theorem hr_icmp_gtT (hC : hb_C p s m args meth c cc nL own Ts cl kd N ad D dA tb nw) {x y : Int32} {off : Int} {tgt : Nat} (hd : decode cc pc = .ok (.if_icmp .gt off, 3)) (ht : (pc : Int) + off = (tgt : Int)) (h : y < x) (k : hb_V p l e R s m args below meth c nL cl kd N ad D dA Qo μ tgt lv st b) : hb_V p l e R s m args below meth c nL cl kd N ad D dA Qo μ pc lv (.int y :: .int x :: st) b := fun out ho ls hl H locs hW hS => lv_icmp_gt hC.1.1 hC.1.2.1 hd ht (fun _ => k out ho ls hl H locs hW hS) (fun q => absurd h q)
theorem hr_icmp_gtF (hC : hb_C p s m args meth c cc nL own Ts cl kd N ad D dA tb nw) {x y : Int32} {off : Int} {tgt : Nat} (hd : decode cc pc = .ok (.if_icmp .gt off, 3)) (ht : (pc : Int) + off = (tgt : Int)) (h : ¬ y < x) (k : hb_V p l e R s m args below meth c nL cl kd N ad D dA Qo μ (pc + 3) lv st b) : hb_V p l e R s m args below meth c nL cl kd N ad D dA Qo μ pc lv (.int y :: .int x :: st) b := fun out ho ls hl H locs hW hS => lv_icmp_gt hC.1.1 hC.1.2.1 hd ht (fun q => absurd q h) (fun _ => k out ho ls hl H locs hW hS)
theorem hr_icmp_leT (hC : hb_C p s m args meth c cc nL own Ts cl kd N ad D dA tb nw) {x y : Int32} {off : Int} {tgt : Nat} (hd : decode cc pc = .ok (.if_icmp .le off, 3)) (ht : (pc : Int) + off = (tgt : Int)) (h : x ≤ y) (k : hb_V p l e R s m args below meth c nL cl kd N ad D dA Qo μ tgt lv st b) : hb_V p l e R s m args below meth c nL cl kd N ad D dA Qo μ pc lv (.int y :: .int x :: st) b := fun out ho ls hl H locs hW hS => lv_icmp_le hC.1.1 hC.1.2.1 hd ht (fun _ => k out ho ls hl H locs hW hS) (fun q => absurd h q)
theorem hr_icmp_leF (hC : hb_C p s m args meth c cc nL own Ts cl kd N ad D dA tb nw) {x y : Int32} {off : Int} {tgt : Nat} (hd : decode cc pc = .ok (.if_icmp .le off, 3)) (ht : (pc : Int) + off = (tgt : Int)) (h : ¬ x ≤ y) (k : hb_V p l e R s m args below meth c nL cl kd N ad D dA Qo μ (pc + 3) lv st b) : hb_V p l e R s m args below meth c nL cl kd N ad D dA Qo μ pc lv (.int y :: .int x :: st) b := fun out ho ls hl H locs hW hS => lv_icmp_le hC.1.1 hC.1.2.1 hd ht (fun q => absurd q h) (fun _ => k out ho ls hl H locs hW hS)
theorem hr_swIn (hC : hb_C p s m args meth c cc nL own Ts cl kd N ad D dA tb nw) {dflt lo hi : Int} {offs : Array Int} {len : Nat} {x v : Int32} {off : Int} {tgt : Nat} {b1 b2 : Option β} (hd : decode cc pc = .ok (.tableswitch dflt lo hi offs, len)) (h1 : ¬ v.toInt < lo) (h2 : ¬ hi < v.toInt) (h3 : offs[(v.toInt - lo).toNat]? = some off) (ht : (pc : Int) + off = (tgt : Int)) (k1 : hb_V p l e R s m args below meth c nL cl kd N ad D dA Qo μ tgt lv st b1) (k2 : ¬ x = v → hb_V p l e R s m args below meth c nL cl kd N ad D dA Qo μ pc lv (.int x :: st) b2) : hb_V p l e R s m args below meth c nL cl kd N ad D dA Qo μ pc lv (.int x :: st) (if x = v then b1 else b2) := by
  intro out ho ls hl H locs hW hS
  by_cases h : x = v
  · rw [if_pos h] at ho
    subst h
    exact lv_tableIn hC.1.1 hC.1.2.1 hd h1 h2 h3 ht (k1 out ho ls hl H locs hW hS)
  · rw [if_neg h] at ho
    exact k2 h out ho ls hl H locs hW hS
theorem hr_swOut (hC : hb_C p s m args meth c cc nL own Ts cl kd N ad D dA tb nw) {dflt lo hi : Int} {offs : Array Int} {len : Nat} {x : Int32} {tgt : Nat} (hd : decode cc pc = .ok (.tableswitch dflt lo hi offs, len)) (h : x.toInt < lo ∨ hi < x.toInt) (ht : (pc : Int) + dflt = (tgt : Int)) (k : hb_V p l e R s m args below meth c nL cl kd N ad D dA Qo μ tgt lv st b) : hb_V p l e R s m args below meth c nL cl kd N ad D dA Qo μ pc lv (.int x :: st) b := fun out ho ls hl H locs hW hS => lv_tableOut hC.1.1 hC.1.2.1 hd h ht (k out ho ls hl H locs hW hS)
theorem hr_null (hC : hb_C p s m args meth c cc nL own Ts cl kd N ad D dA tb nw) (hd : decode cc pc = .ok (.aconst_null, 1)) (k : hb_V p l e R s m args below meth c nL cl kd N ad D dA Qo μ (pc + 1) lv (.null :: st) b) : hb_V p l e R s m args below meth c nL cl kd N ad D dA Qo μ pc lv st b := fun out ho ls hl H locs hW hS => lv_null hC.1.1 hC.1.2.1 hd (k out ho ls hl H locs hW hS)
theorem hr_ifnullN (hC : hb_C p s m args meth c cc nL own Ts cl kd N ad D dA tb nw) {off : Int} {tgt : Nat} (hd : decode cc pc = .ok (.ifnull off, 3)) (ht : (pc : Int) + off = (tgt : Int)) (k : hb_V p l e R s m args below meth c nL cl kd N ad D dA Qo μ tgt lv st b) : hb_V p l e R s m args below meth c nL cl kd N ad D dA Qo μ pc lv (.null :: st) b := fun out ho ls hl H locs hW hS => lv_ifnullN hC.1.1 hC.1.2.1 hd ht (k out ho ls hl H locs hW hS)
theorem hr_ifnull (hC : hb_C p s m args meth c cc nL own Ts cl kd N ad D dA tb nw) {x : Nat} {off : Int} (hd : decode cc pc = .ok (.ifnull off, 3)) (k : hb_V p l e R s m args below meth c nL cl kd N ad D dA Qo μ (pc + 3) lv st b) : hb_V p l e R s m args below meth c nL cl kd N ad D dA Qo μ pc lv (.ref x :: st) b := fun out ho ls hl H locs hW hS => lv_ifnull hC.1.1 hC.1.2.1 hd (k out ho ls hl H locs hW hS)
theorem hr_ifnonnull (hC : hb_C p s m args meth c cc nL own Ts cl kd N ad D dA tb nw) {x : Nat} {off : Int} {tgt : Nat} (hd : decode cc pc = .ok (.ifnonnull off, 3)) (ht : (pc : Int) + off = (tgt : Int)) (k : hb_V p l e R s m args below meth c nL cl kd N ad D dA Qo μ tgt lv st b) : hb_V p l e R s m args below meth c nL cl kd N ad D dA Qo μ pc lv (.ref x :: st) b := fun out ho ls hl H locs hW hS => lv_ifnonnull hC.1.1 hC.1.2.1 hd ht (k out ho ls hl H locs hW hS)
theorem hr_ifnonnullN (hC : hb_C p s m args meth c cc nL own Ts cl kd N ad D dA tb nw) {off : Int} (hd : decode cc pc = .ok (.ifnonnull off, 3)) (k : hb_V p l e R s m args below meth c nL cl kd N ad D dA Qo μ (pc + 3) lv st b) : hb_V p l e R s m args below meth c nL cl kd N ad D dA Qo μ pc lv (.null :: st) b := fun out ho ls hl H locs hW hS => lv_ifnonnullN hC.1.1 hC.1.2.1 hd (k out ho ls hl H locs hW hS)
theorem hr_astoreN_n (hC : hb_C p s m args meth c cc nL own Ts cl kd N ad D dA tb nw) {k : Fin 4} {i : Nat} {lv' : List (Nat × Value)} (hd : decode cc pc = .ok (.astore_n k, 1)) (hi : (k : Nat) = i) (hn : i < nL) (hl : (i, Value.null) :: lv.filter (fun q => !(q.1 == i) && !(q.1 + 1 == i && q.2.category == 2)) = lv') (kk : hb_V p l e R s m args below meth c nL cl kd N ad D dA Qo μ (pc + 1) lv' st b) : hb_V p l e R s m args below meth c nL cl kd N ad D dA Qo μ pc lv (.null :: st) b := by
  subst hi
  intro out ho ls h H locs hW hS
  obtain ⟨ls', e', h'⟩ := lv_store1 (v := .null) h hn rfl
  intro T hT X
  obtain ⟨t, a, z⟩ := kk out ho ls' (hl ▸ h') H locs hW hS T hT X
  have hexec := hC.1.1
  have hb := hC.1.2.1
  refine ⟨t, ?_, z⟩
  jvm_step X.here [X.here.top, ↓top_set X.here.top, hexec, hb, hd, e', Value.isRef]
  exact a
theorem hr_astoreN (hC : hb_C p s m args meth c cc nL own Ts cl kd N ad D dA tb nw) {i : Nat} {lv' : List (Nat × Value)} (hd : decode cc pc = .ok (.astore i, 2))  (hn : i < nL) (hl : (i, Value.null) :: lv.filter (fun q => !(q.1 == i) && !(q.1 + 1 == i && q.2.category == 2)) = lv') (kk : hb_V p l e R s m args below meth c nL cl kd N ad D dA Qo μ (pc + 2) lv' st b) : hb_V p l e R s m args below meth c nL cl kd N ad D dA Qo μ pc lv (.null :: st) b := by
  intro out ho ls h H locs hW hS
  obtain ⟨ls', e', h'⟩ := lv_store1 (v := .null) h hn rfl
  intro T hT X
  obtain ⟨t, a, z⟩ := kk out ho ls' (hl ▸ h') H locs hW hS T hT X
  have hexec := hC.1.1
  have hb := hC.1.2.1
  refine ⟨t, ?_, z⟩
  jvm_step X.here [X.here.top, ↓top_set X.here.top, hexec, hb, hd, e', Value.isRef]
  exact a
theorem hr_aloadN_n (hC : hb_C p s m args meth c cc nL own Ts cl kd N ad D dA tb nw) {k : Fin 4} {i : Nat} (hd : decode cc pc = .ok (.aload_n k, 1)) (hi : (k : Nat) = i) (j : Nat) (hj : lv[j]? = some (i, .null)) (kk : hb_V p l e R s m args below meth c nL cl kd N ad D dA Qo μ (pc + 1) lv (.null :: st) b) : hb_V p l e R s m args below meth c nL cl kd N ad D dA Qo μ pc lv st b := by
  subst hi
  intro out ho ls h H locs hW hS
  have hl := lv_at h j hj
  intro T hT X
  obtain ⟨t, a, z⟩ := kk out ho ls h H locs hW hS T hT X
  have hexec := hC.1.1
  have hb := hC.1.2.1
  refine ⟨t, ?_, z⟩
  jvm_step X.here [X.here.top, hexec, hb, hd, hl, Value.isRef]
  exact a
theorem hr_aloadN (hC : hb_C p s m args meth c cc nL own Ts cl kd N ad D dA tb nw) {i : Nat} (hd : decode cc pc = .ok (.aload i, 2))  (j : Nat) (hj : lv[j]? = some (i, .null)) (kk : hb_V p l e R s m args below meth c nL cl kd N ad D dA Qo μ (pc + 2) lv (.null :: st) b) : hb_V p l e R s m args below meth c nL cl kd N ad D dA Qo μ pc lv st b := by
  intro out ho ls h H locs hW hS
  have hl := lv_at h j hj
  intro T hT X
  obtain ⟨t, a, z⟩ := kk out ho ls h H locs hW hS T hT X
  have hexec := hC.1.1
  have hb := hC.1.2.1
  refine ⟨t, ?_, z⟩
  jvm_step X.here [X.here.top, hexec, hb, hd, hl, Value.isRef]
  exact a
theorem hr_getI (hC : hb_C p s m args meth c cc nL own Ts cl kd N ad D dA tb nw) {C : String} {T : u_T} {M ci index : Nat} {fl : List (Option Nat)} {k : Nat} (hin : ∀ w ∈ u_ws C T M, w ∈ Ts) (hc : cl[ci]? = some (C, T, M)) (hk : k < N ∧ kd k = .inl (ci, fl)) (j : Nat) (hj : j < M) (hm : Cond.fieldLink own index (T j).1 (T j).2.1 (T j).2.2.1 ∈ Ts) (hf : fl[j]? = some none) (hd : decode cc pc = .ok (.getfield index, 3)) (kk : hb_V p l e R s m args below meth c nL cl kd N ad D dA Qo μ (pc + 3) lv (.int (rd μ k j) :: st) b) : hb_V p l e R s m args below meth c nL cl kd N ad D dA Qo μ pc lv (.ref (ad k) :: st) b := fun out ho ls hl H locs hW hS => va_get hC.1.1 hC.1.2.1 hC.1.2.2.2.2 hin hC.1.2.2.2.1 hC.2.1.1 hW k (fs := hb_F ad (rd μ k) 0 fl) (by rw [hb_L_get hk.1, hb_E, hb_E0, hk.2]) hc j hj (hC.1.2.2.2.2 _ hm) (fun _ h9 => h9) (v := .int (rd μ k j)) (by have := (hb_F_get (ad := ad) (f := rd μ k) fl 0 j).1 hf; rw [Nat.zero_add] at this; exact this) hd (kk out ho ls hl H locs hW hS)
theorem hr_getR (hC : hb_C p s m args meth c cc nL own Ts cl kd N ad D dA tb nw) {C : String} {T : u_T} {M ci index : Nat} {fl : List (Option Nat)} {k : Nat} (hin : ∀ w ∈ u_ws C T M, w ∈ Ts) (hc : cl[ci]? = some (C, T, M)) (hk : k < N ∧ kd k = .inl (ci, fl)) (j : Nat) (hj : j < M) (hm : Cond.fieldLink own index (T j).1 (T j).2.1 (T j).2.2.1 ∈ Ts) {q : Nat} (hf : fl[j]? = some (some q)) (hd : decode cc pc = .ok (.getfield index, 3)) (kk : hb_V p l e R s m args below meth c nL cl kd N ad D dA Qo μ (pc + 3) lv (.ref (ad q) :: st) b) : hb_V p l e R s m args below meth c nL cl kd N ad D dA Qo μ pc lv (.ref (ad k) :: st) b := fun out ho ls hl H locs hW hS => va_get hC.1.1 hC.1.2.1 hC.1.2.2.2.2 hin hC.1.2.2.2.1 hC.2.1.1 hW k (fs := hb_F ad (rd μ k) 0 fl) (by rw [hb_L_get hk.1, hb_E, hb_E0, hk.2]) hc j hj (hC.1.2.2.2.2 _ hm) (fun _ h9 => h9) (v := .ref (ad q)) ((hb_F_get (ad := ad) (f := rd μ k) fl 0 j).2 q hf) hd (kk out ho ls hl H locs hW hS)
theorem hr_putI (hC : hb_C p s m args meth c cc nL own Ts cl kd N ad D dA tb nw) {C : String} {T : u_T} {M ci index : Nat} {fl : List (Option Nat)} {k : Nat} {ty0 : Nat → FieldType} (hin : ∀ w ∈ u_ws C T M, w ∈ Ts) (hc : cl[ci]? = some (C, T, M)) (hk : k < N ∧ kd k = .inl (ci, fl)) (j : Nat) (hj : j < M) (hm : Cond.fieldLink own index (T j).1 (T j).2.1 (T j).2.2.1 ∈ Ts) (hty : ∀ i, i < M → parseFieldDescriptor (T i).2.2.1 = some (ty0 i)) (hnm : ∀ a, a < M → ∀ b, b < M → a ≠ b → (T a).2.1 ≠ (T b).2.1) (hfin : (T j).2.2.2 = false) {x : Int32} (hn : narrow (ty0 j) (.int x) = .int x) (hfit : fits (ty0 j) (.int x) = true) (hf : fl[j]? = some none) (hd : decode cc pc = .ok (.putfield index, 3)) (kk : hb_V p l e R s m args below meth c nL cl kd N ad D dA Qo (wr μ k j x) (pc + 3) lv st b) : hb_V p l e R s m args below meth c nL cl kd N ad D dA Qo μ pc lv (.int x :: .ref (ad k) :: st) b := fun out ho ls hl H locs hW hS => va_put hC.1.1 hC.1.2.1 hC.1.2.2.2.2 hin ty0 hty hnm hC.1.2.2.2.1 hC.2.1.1 hW (hb_L_D hC.2.2.1) hS k (fs := hb_F ad (rd μ k) 0 fl) (by rw [hb_L_get hk.1, hb_E, hb_E0, hk.2]) hc j hj (hC.1.2.2.2.2 _ hm) (fun _ h9 => h9) hfin (hty j hj) hn hfit (by rw [hb_F_len]; exact (List.getElem?_eq_some_iff.mp hf).1) hd (fun H1 locs1 hP hD hS1 => kk out ho ls hl H1 locs1 (by rw [hb_setF hk.1 hk.2 hf] at hP; exact hP) hS1)
theorem hr_iald (hC : hb_C p s m args meth c cc nL own Ts cl kd N ad D dA tb nw) {k n : Nat} {i : Int32} (hk : k < N ∧ kd k = .inr (.inl (.int, n))) (hd : decode cc pc = .ok (.iaload, 1)) (kk : hb_V p l e R s m args below meth c nL cl kd N ad D dA Qo μ (pc + 1) lv (.int (rd μ k i.toNatClampNeg) :: st) b) : hb_V p l e R s m args below meth c nL cl kd N ad D dA Qo μ pc lv (.int i :: .ref (ad k) :: st) (if ib i n then b else none) := by
  intro out ho ls hl H locs hW hS
  by_cases hi0 : ib i n = true
  · rw [if_pos hi0] at ho
    have hi := ib_in hi0
    exact va_iald hC.1.1 hC.1.2.1 (hb_Kt hC.2.1 hk.1 (ty := .int) (by simp [hb_t, hk.2])) hW k 0 (n := n) (f := rd μ k) (by rw [hb_L_get hk.1, hb_E, hb_E0, hk.2]) rfl hi hd (kk out ho ls hl H locs hW hS)
  · rw [if_neg hi0] at ho
    cases ho
theorem hr_zald (hC : hb_C p s m args meth c cc nL own Ts cl kd N ad D dA tb nw) {k n : Nat} {i : Int32} (hk : k < N ∧ kd k = .inr (.inl (.boolean, n))) (hd : decode cc pc = .ok (.baload, 1)) (kk : hb_V p l e R s m args below meth c nL cl kd N ad D dA Qo μ (pc + 1) lv (.int (rd μ k i.toNatClampNeg) :: st) b) : hb_V p l e R s m args below meth c nL cl kd N ad D dA Qo μ pc lv (.int i :: .ref (ad k) :: st) (if ib i n then b else none) := by
  intro out ho ls hl H locs hW hS
  by_cases hi0 : ib i n = true
  · rw [if_pos hi0] at ho
    have hi := ib_in hi0
    exact va_zald hC.1.1 hC.1.2.1 (hb_Kt hC.2.1 hk.1 (ty := .boolean) (by simp [hb_t, hk.2])) hW k 0 (n := n) (f := rd μ k) (by rw [hb_L_get hk.1, hb_E, hb_E0, hk.2]) rfl hi hd (kk out ho ls hl H locs hW hS)
  · rw [if_neg hi0] at ho
    cases ho
theorem hr_cald (hC : hb_C p s m args meth c cc nL own Ts cl kd N ad D dA tb nw) {k n : Nat} {i : Int32} (hk : k < N ∧ kd k = .inr (.inl (.char, n))) (hd : decode cc pc = .ok (.caload, 1)) (kk : hb_V p l e R s m args below meth c nL cl kd N ad D dA Qo μ (pc + 1) lv (.int (rd μ k i.toNatClampNeg) :: st) b) : hb_V p l e R s m args below meth c nL cl kd N ad D dA Qo μ pc lv (.int i :: .ref (ad k) :: st) (if ib i n then b else none) := by
  intro out ho ls hl H locs hW hS
  by_cases hi0 : ib i n = true
  · rw [if_pos hi0] at ho
    have hi := ib_in hi0
    exact va_cald hC.1.1 hC.1.2.1 (hb_Kt hC.2.1 hk.1 (ty := .char) (by simp [hb_t, hk.2])) hW k 0 (n := n) (f := rd μ k) (by rw [hb_L_get hk.1, hb_E, hb_E0, hk.2]) rfl hi hd (kk out ho ls hl H locs hW hS)
  · rw [if_neg hi0] at ho
    cases ho
theorem hr_lald (hC : hb_C p s m args meth c cc nL own Ts cl kd N ad D dA tb nw) {k n : Nat} {i : Int32} (hk : k < N ∧ kd k = .inr (.inr (.inl n))) (hd : decode cc pc = .ok (.laload, 1)) (kk : hb_V p l e R s m args below meth c nL cl kd N ad D dA Qo μ (pc + 1) lv (.long (rL μ k i.toNatClampNeg) :: st) b) : hb_V p l e R s m args below meth c nL cl kd N ad D dA Qo μ pc lv (.int i :: .ref (ad k) :: st) (if ib i n then b else none) := by
  intro out ho ls hl H locs hW hS
  by_cases hi0 : ib i n = true
  · rw [if_pos hi0] at ho
    have hi := ib_in hi0
    exact va_lald hC.1.1 hC.1.2.1 (hb_Kt hC.2.1 hk.1 (ty := .long) (by simp [hb_t, hk.2])) hW k 0 (n := n) (f := rL μ k) (by rw [hb_L_get hk.1, hb_E, hb_E0, hk.2]) rfl hi hd (kk out ho ls hl H locs hW hS)
  · rw [if_neg hi0] at ho
    cases ho
theorem hr_aald (hC : hb_C p s m args meth c cc nL own Ts cl kd N ad D dA tb nw) {k : Nat} {i : Int32} {cn : String} {li : List Nat} (cf : Nat → Nat) (n : Nat) (hk : k < N ∧ kd k = .inr (.inr (.inr (cn, li)))) (hn : li.length = n) (hcf : ∀ j, j < n → li[j]? = some (cf j)) (hd : decode cc pc = .ok (.aaload, 1)) (kk : i.toNatClampNeg < n → hb_V p l e R s m args below meth c nL cl kd N ad D dA Qo μ (pc + 1) lv (.ref (ad (cf i.toNatClampNeg)) :: st) b) : hb_V p l e R s m args below meth c nL cl kd N ad D dA Qo μ pc lv (.int i :: .ref (ad k) :: st) (if ib i n then b else none) := by
  intro out ho ls hl H locs hW hS
  subst hn
  by_cases hi0 : ib i li.length = true
  · rw [if_pos hi0] at ho
    have hi := ib_in hi0
    have hlt : i.toNatClampNeg < li.length := Nat.not_le.mp fun q => hi (Or.inr q)
    refine va_aldq hC.1.1 hC.1.2.1 (hb_Kt hC.2.1 hk.1 (ty := .object cn) (by simp [hb_t, hk.2])) hW k 0 (n := li.length) (f := fun j => (li[j]?).map ad) (by rw [hb_L_get hk.1, hb_E, hb_E0, hk.2]) rfl hi hd ?_
    rw [hcf _ hlt]
    exact kk hlt out ho ls hl H locs hW hS
  · rw [if_neg hi0] at ho
    cases ho
theorem hr_iast (hC : hb_C p s m args meth c cc nL own Ts cl kd N ad D dA tb nw) {k n : Nat} {i : Int32} {x : Int32} (hk : k < N ∧ kd k = .inr (.inl (.int, n))) (hd : decode cc pc = .ok (.iastore, 1)) (kk : hb_V p l e R s m args below meth c nL cl kd N ad D dA Qo (wr μ k i.toNatClampNeg x) (pc + 1) lv st b) : hb_V p l e R s m args below meth c nL cl kd N ad D dA Qo μ pc lv (.int x :: .int i :: .ref (ad k) :: st) (if ib i n then b else none) := by
  intro out ho ls hl H locs hW hS
  by_cases hi0 : ib i n = true
  · rw [if_pos hi0] at ho
    have hi := ib_in hi0
    exact va_iast hC.1.1 hC.1.2.1 (hb_Kt hC.2.1 hk.1 (ty := .int) (by simp [hb_t, hk.2])) hW (hb_L_D hC.2.2.1) hS k 0 (n := n) (f := rd μ k) (by rw [hb_L_get hk.1, hb_E, hb_E0, hk.2]) rfl hi hd (fun H1 locs1 hP hD hS1 => kk out ho ls hl H1 locs1 (by rw [hb_setI hk.1 hk.2] at hP; exact hP) hS1)
  · rw [if_neg hi0] at ho
    cases ho
theorem hr_zast (hC : hb_C p s m args meth c cc nL own Ts cl kd N ad D dA tb nw) {k n : Nat} {i : Int32} {x : Int32} (hk : k < N ∧ kd k = .inr (.inl (.boolean, n))) (hd : decode cc pc = .ok (.bastore, 1)) (kk : hb_V p l e R s m args below meth c nL cl kd N ad D dA Qo (wr μ k i.toNatClampNeg (vp_nar .boolean x)) (pc + 1) lv st b) : hb_V p l e R s m args below meth c nL cl kd N ad D dA Qo μ pc lv (.int x :: .int i :: .ref (ad k) :: st) (if ib i n then b else none) := by
  intro out ho ls hl H locs hW hS
  by_cases hi0 : ib i n = true
  · rw [if_pos hi0] at ho
    have hi := ib_in hi0
    exact va_zast hC.1.1 hC.1.2.1 (hb_Kt hC.2.1 hk.1 (ty := .boolean) (by simp [hb_t, hk.2])) hW (hb_L_D hC.2.2.1) hS k 0 (n := n) (f := rd μ k) (by rw [hb_L_get hk.1, hb_E, hb_E0, hk.2]) rfl hi hd (fun H1 locs1 hP hD hS1 => kk out ho ls hl H1 locs1 (by rw [hb_setI hk.1 hk.2] at hP; exact hP) hS1)
  · rw [if_neg hi0] at ho
    cases ho
theorem hr_cast (hC : hb_C p s m args meth c cc nL own Ts cl kd N ad D dA tb nw) {k n : Nat} {i : Int32} {x : Int32} (hk : k < N ∧ kd k = .inr (.inl (.char, n))) (hd : decode cc pc = .ok (.castore, 1)) (kk : hb_V p l e R s m args below meth c nL cl kd N ad D dA Qo (wr μ k i.toNatClampNeg (vp_nar .char x)) (pc + 1) lv st b) : hb_V p l e R s m args below meth c nL cl kd N ad D dA Qo μ pc lv (.int x :: .int i :: .ref (ad k) :: st) (if ib i n then b else none) := by
  intro out ho ls hl H locs hW hS
  by_cases hi0 : ib i n = true
  · rw [if_pos hi0] at ho
    have hi := ib_in hi0
    exact va_cast hC.1.1 hC.1.2.1 (hb_Kt hC.2.1 hk.1 (ty := .char) (by simp [hb_t, hk.2])) hW (hb_L_D hC.2.2.1) hS k 0 (n := n) (f := rd μ k) (by rw [hb_L_get hk.1, hb_E, hb_E0, hk.2]) rfl hi hd (fun H1 locs1 hP hD hS1 => kk out ho ls hl H1 locs1 (by rw [hb_setI hk.1 hk.2] at hP; exact hP) hS1)
  · rw [if_neg hi0] at ho
    cases ho
theorem hr_last (hC : hb_C p s m args meth c cc nL own Ts cl kd N ad D dA tb nw) {k n : Nat} {i : Int32} {x : Int64} (hk : k < N ∧ kd k = .inr (.inr (.inl n))) (hd : decode cc pc = .ok (.lastore, 1)) (kk : hb_V p l e R s m args below meth c nL cl kd N ad D dA Qo (wL μ k i.toNatClampNeg x) (pc + 1) lv st b) : hb_V p l e R s m args below meth c nL cl kd N ad D dA Qo μ pc lv (.long x :: .int i :: .ref (ad k) :: st) (if ib i n then b else none) := by
  intro out ho ls hl H locs hW hS
  by_cases hi0 : ib i n = true
  · rw [if_pos hi0] at ho
    have hi := ib_in hi0
    exact va_last hC.1.1 hC.1.2.1 (hb_Kt hC.2.1 hk.1 (ty := .long) (by simp [hb_t, hk.2])) hW (hb_L_D hC.2.2.1) hS k 0 (n := n) (f := rL μ k) (by rw [hb_L_get hk.1, hb_E, hb_E0, hk.2]) rfl hi hd (fun H1 locs1 hP hD hS1 => kk out ho ls hl H1 locs1 (by rw [hb_setJ hk.1 hk.2] at hP; exact hP) hS1)
  · rw [if_neg hi0] at ho
    cases ho
theorem hr_alen (hC : hb_C p s m args meth c cc nL own Ts cl kd N ad D dA tb nw) {k n : Nat} {ty : FieldType} (hk : k < N ∧ kd k = .inr (.inl (ty, n))) (hd : decode cc pc = .ok (.arraylength, 1)) (kk : hb_V p l e R s m args below meth c nL cl kd N ad D dA Qo μ (pc + 1) lv (.int (Int32.ofNat n) :: st) b) : hb_V p l e R s m args below meth c nL cl kd N ad D dA Qo μ pc lv (.ref (ad k) :: st) b := fun out ho ls hl H locs hW hS => va_alen hC.1.1 hC.1.2.1 (hb_Kt hC.2.1 hk.1 (ty := ty) (by simp [hb_t, hk.2])) hW k 0 (x := (n, .inl (rd μ k))) (by rw [hb_L_get hk.1, hb_E, hb_E0, hk.2]) rfl rfl hd (kk out ho ls hl H locs hW hS)
theorem hr_gets (hC : hb_C p s m args meth c cc nL own Ts cl kd N ad D dA tb nw) {q : hb_tb} {index : Nat} (hq : q ∈ tb) (hm : Cond.fieldLink own index q.1 q.2.1 q.2.2.1 ∈ Ts) (hd : decode cc pc = .ok (.getstatic index, 3)) (k : hb_V p l e R s m args below meth c nL cl kd N ad D dA Qo μ (pc + 3) lv (.ref q.2.2.2.1 :: st) b) : hb_V p l e R s m args below meth c nL cl kd N ad D dA Qo μ pc lv st b := fun out ho ls hl H locs hW hS => va_gets hC.1.1 hC.1.2.1 (hC.2.2.2.1 q hq).1 hS hC.1.2.2.2.1 (hC.1.2.2.2.2 _ hm) (fun _ h9 => h9) hd (k out ho ls hl H locs hW hS)
theorem hr_tald (hC : hb_C p s m args meth c cc nL own Ts cl kd N ad D dA tb nw) {q : hb_tb} {i : Int32} {t n : Nat} {f : Nat → Int32} (hq : q ∈ tb) (ht : q.2.2.2 = (t, n, f)) (hd : decode cc pc = .ok (.iaload, 1)) (k : hb_V p l e R s m args below meth c nL cl kd N ad D dA Qo μ (pc + 1) lv (.int (f i.toNatClampNeg) :: st) b) : hb_V p l e R s m args below meth c nL cl kd N ad D dA Qo μ pc lv (.int i :: .ref t :: st) (if ib i n then b else none) := by
  intro out ho ls hl H locs hW hS
  have h := (hC.2.2.2.1 q hq).2
  rw [ht] at h
  by_cases hi0 : ib i n = true
  · rw [if_pos hi0] at ho
    have hi := ib_in hi0
    exact va_ti hC.1.1 hC.1.2.1 h hS hi rfl hd (k out ho ls hl H locs hW hS)
  · rw [if_neg hi0] at ho
    cases ho
theorem hr_tlen (hC : hb_C p s m args meth c cc nL own Ts cl kd N ad D dA tb nw) {q : hb_tb} {t n : Nat} {f : Nat → Int32} (hq : q ∈ tb) (ht : q.2.2.2 = (t, n, f)) (hd : decode cc pc = .ok (.arraylength, 1)) (k : hb_V p l e R s m args below meth c nL cl kd N ad D dA Qo μ (pc + 1) lv (.int (Int32.ofNat n) :: st) b) : hb_V p l e R s m args below meth c nL cl kd N ad D dA Qo μ pc lv (.ref t :: st) b := by
  intro out ho ls hl H locs hW hS
  have h := (hC.2.2.2.1 q hq).2
  rw [ht] at h
  exact va_tlen hC.1.1 hC.1.2.1 h hS rfl hd (k out ho ls hl H locs hW hS)
theorem hr_copy (hC : hb_C p s m args meth c cc nL own Ts cl kd N ad D dA tb nw) {index : Nat} {a k n0 n1 n : Nat} {z : Int32} {ty : FieldType} (hm1 : Cond.methodLink own index arraycopyName ∈ Ts) (hm2 : Cond.native arraycopyName ∈ Ts) (hm3 : Cond.static arraycopyName ∈ Ts) (hm4 : Cond.initialized "java/lang/System" ∈ Ts) (ha : a < N ∧ kd a = .inr (.inl (ty, n0))) (hk : k < N ∧ kd k = .inr (.inl (ty, n1))) (hp : refKind ty = false) (hz : z = Int32.ofNat n) (hn : n < 2 ^ 31) (hroom : 1 ≤ R.frames ∧ (st.map fun v => v.category).sum + (nativeFrameWords "java/lang/System" "arraycopy" 5 + 11) ≤ R.locals) (hd : decode cc pc = .ok (.invokestatic index, 3)) (kk : hb_V p l e R s m args below meth c nL cl kd N ad D dA Qo (cpA μ a k n) (pc + 3) lv st b) : hb_V p l e R s m args below meth c nL cl kd N ad D dA Qo μ pc lv (.int z :: .int 0 :: .ref (ad k) :: .int 0 :: .ref (ad a) :: st) (if cb ty μ a n n0 n1 then b else none) := by
  intro out ho ls hl H locs hW hS
  split at ho
  next h0 =>
    simp only [cb, Bool.and_eq_true, decide_eq_true_eq, List.all_eq_true, List.mem_range] at h0
    have h := (⟨h0.1.1, h0.1.2, h0.2⟩ : n ≤ n0 ∧ n ≤ n1 ∧ ∀ i, i < n → fits ty (.int (rd μ a i)) = true)
    have hz0 : (0 : Int32).toNatClampNeg = 0 := rfl
    have hz1 : z.toNatClampNeg = n := by rw [hz]; exact nI_clamp hn
    have hz2 : ¬ z < 0 := by rw [hz]; exact nI_pos hn
    refine va_copyi hC.1.1 hC.1.2.1 (hC.1.2.2.1.trans hl.1.symm) hC.1.2.2.2.1 (hC.1.2.2.2.2 _ hm1) (hC.1.2.2.2.2 _ hm2) (hC.1.2.2.2.2 _ hm3) (hC.1.2.2.2.2 _ hm4) (hb_Kt2 hC.2.1 ha.1 (ty := ty) (by simp [hb_t, ha.2]) hk.1 (by simp [hb_t, hk.2])) hW (hb_L_D hC.2.2.1) hS a k 0 1 (n0 := n0) (n1 := n1) (f := rd μ a) (g := rd μ k) (by rw [hb_L_get ha.1, hb_E, hb_E0, ha.2]) (by rw [hb_L_get hk.1, hb_E, hb_E0, hk.2]) rfl rfl hp (by decide) (by decide) hz2 (by rw [hz0, hz1]; omega) (by rw [hz0, hz1]; omega) (fun i hi => by rw [hz1] at hi; rw [hz0, Nat.zero_add]; exact h.2.2 i hi) hroom.1 hroom.2 hd (fun H1 locs1 hP hD hS1 => kk out ho ls hl H1 locs1 ?_ hS1)
    rw [hz0, hz1, hb_setC hk.1 hk.2] at hP
    exact hP
  next h => cases ho
theorem hb_call {H : Heap} {locs : List Loc} {Q : State → Prop} {ls : Array Slot} {rest st0 : List Value} {Qa : State → Outcome → State → Prop} {A : Nat → Prop} {rv : Option Value} {μ1 : hb_m} (hr : va_Run p l e R s m args below meth c H locs 0 0 0 0 (F0 m pc ls st0) rest Qa A) (hS : va_S A s.heap H locs) (hq : ∀ (s0 : State) (v : Option Value) (t : State), Qa s0 (.returned v) t → v = rv ∧ hb_W cl kd N ad D dA μ1 t.heap ∧ va_F A s0 t)
    (kk : ∀ (H1 : Heap) (locs1 : List Loc), hb_W cl kd N ad D dA μ1 H1 → va_S A s.heap H1 locs1 → W p l e R s m args below meth c H1 locs1 0 0 Q (F0 m (pc + 3) ls (rv.toList ++ rest))) : W p l e R s m args below meth c H locs 0 0 Q (F0 m pc ls st0) := by
  intro T hT X
  obtain ⟨v, st₀, t, T', L, h0, X', hL, e1, e2, hqa, st⟩ := hr T hT X
  obtain ⟨rfl, hw, hz, hk⟩ := hq _ _ _ hqa
  rw [h0] at hz hk
  obtain ⟨t2, a1, b1⟩ := kk T'.heap (locs ++ L) (by rw [e1]; exact hw) ⟨Nat.le_trans hS.1 (by rw [e1]; exact hz), fun q h1 h2 => by rw [e1, hk q (Nat.lt_of_lt_of_le h1 hS.1) h2]; exact hS.2.1 q h1 h2, fun q hq => by
      rcases List.mem_append.mp hq with h | h
      · exact hS.2.2 q h
      · exact hL q h⟩ T' rfl X'
  exact ⟨t2, st t2 a1, b1⟩
theorem hr_callVi (hC : hb_C p s m args meth c cc nL own Ts cl kd N ad D dA tb nw) {stk : List Value} {y : MethodName} {bytes : ByteArray} {maxL n index : Nat} {ret : Option FieldType} {ws : List Cond} {rm : Room} {As : List Value} {fl : List (Option Nat)} {ci k : Nat} {q : vw_C} {Cn : String} {fb : Option (Int32 × hb_m)} {K : Int32 → hb_m → Option β} (hs : stk = As.reverse ++ .ref (ad k) :: st) (hM : hb_M (hb_Qi cl kd N ad D dA) l y ws rm cl kd N ad D dA tb nw (.ref (ad k) :: As) μ fb) (hw : CallW R s args own Cn index y bytes maxL ret ws rm 0 0 n) (hk : k < N ∧ kd k = .inl (ci, fl)) (hc : cl[ci]? = some q) (hcn : q.1 = Cn) (hn : As.length = n) (hroom : (st.map fun v => v.category).sum ≤ 8) (hd : decode cc pc = .ok (.invokevirtual index, 3)) (kk : ∀ (r : Int32) (μ1 : hb_m), hb_V p l e R s m args below meth c nL cl kd N ad D dA Qo μ1 (pc + 3) lv (.int r :: st) (K r μ1)) : hb_V p l e R s m args below meth c nL cl kd N ad D dA Qo μ pc lv stk (bi fb K) := by
  subst hs
  intro out ho ls hl H locs hW hS
  cases hfb : fb with
  | none => rw [hfb] at ho; cases ho
  | some o =>
    rw [hfb] at ho
    refine hb_call (μ1 := o.2) (va_runV hC.1 (hM o hfb) hw ⟨hb_blind, ?_, fun U hU hWm => ⟨rfl, hb_at hC (k := 0) hW hS hU hWm⟩⟩ rfl hn hl.1 rfl (lv_room hroom) hd ⟨Nat.zero_le _, Nat.zero_le _⟩) hS (fun s0 v t h => ⟨Outcome.returned.inj h.1.1, h.1.2, h.2⟩) (fun H1 locs1 hW1 hS1 => ?_)
    · subst hcn
      exact va_recv (q0 := k) hC.2.1.1 hW hc (by rw [hb_L_get hk.1, hb_E, hb_E0, hk.2])
    · exact kk o.1 o.2 out ho ls hl H1 locs1 hW1 hS1
theorem hr_callSi (hC : hb_C p s m args meth c cc nL own Ts cl kd N ad D dA tb nw) {stk : List Value} {y : MethodName} {bytes : ByteArray} {maxL n index : Nat} {ret : Option FieldType} {ws : List Cond} {rm : Room} {As : List Value} {fb : Option (Int32 × hb_m)} {K : Int32 → hb_m → Option β} (hs : stk = As.reverse ++ st) (hM : hb_M (hb_Qi cl kd N ad D dA) l y ws rm cl kd N ad D dA tb nw As μ fb) (hw : CallB R s args own index y bytes maxL ret ws rm 0 0 n ∧ (Cond.static y).before args s = true) (hn : As.length = n) (hroom : (st.map fun v => v.category).sum ≤ 8) (hd : decode cc pc = .ok (.invokestatic index, 3)) (kk : ∀ (r : Int32) (μ1 : hb_m), hb_V p l e R s m args below meth c nL cl kd N ad D dA Qo μ1 (pc + 3) lv (.int r :: st) (K r μ1)) : hb_V p l e R s m args below meth c nL cl kd N ad D dA Qo μ pc lv stk (bi fb K) := by
  subst hs
  intro out ho ls hl H locs hW hS
  cases hfb : fb with
  | none => rw [hfb] at ho; cases ho
  | some o =>
    rw [hfb] at ho
    refine hb_call (μ1 := o.2) (va_runS hC.1 (hM o hfb) hw ⟨hb_blind, fun U hU hWm => ⟨rfl, hb_at hC (k := 0) hW hS hU hWm⟩⟩ rfl hn hl.1 rfl (lv_room hroom) hd ⟨Nat.zero_le _, Nat.zero_le _⟩) hS (fun s0 v t h => ⟨Outcome.returned.inj h.1.1, h.1.2, h.2⟩) (fun H1 locs1 hW1 hS1 => ?_)
    · exact kk o.1 o.2 out ho ls hl H1 locs1 hW1 hS1
theorem hr_callSNi (hC : hb_C p s m args meth c cc nL own Ts cl kd N ad D dA tb nw) {stk : List Value} {y : MethodName} {bytes : ByteArray} {maxL n index : Nat} {ret : Option FieldType} {ws : List Cond} {rm : Room} {As : List Value} {host : String} {fb : Option (Int32 × hb_m)} {K : Int32 → hb_m → Option β} (hs : stk = As.reverse ++ st) (hM : hb_M (hb_Qi cl kd N ad D dA) l y ws rm cl kd N ad D dA tb nw As μ fb) (hw : va_CN R s args own index y host bytes maxL ret ws rm 0 0 n ∧ (Cond.static y).before args s = true ∧ True) (hn : As.length = n) (hroom : (st.map fun v => v.category).sum ≤ 8) (hd : decode cc pc = .ok (.invokestatic index, 3)) (kk : ∀ (r : Int32) (μ1 : hb_m), hb_V p l e R s m args below meth c nL cl kd N ad D dA Qo μ1 (pc + 3) lv (.int r :: st) (K r μ1)) : hb_V p l e R s m args below meth c nL cl kd N ad D dA Qo μ pc lv stk (bi fb K) := by
  subst hs
  intro out ho ls hl H locs hW hS
  cases hfb : fb with
  | none => rw [hfb] at ho; cases ho
  | some o =>
    rw [hfb] at ho
    refine hb_call (μ1 := o.2) (va_runSN hC.1 (hM o hfb) hw ⟨hb_blind, fun U hU hWm => ⟨rfl, hb_at hC (k := 0) hW hS hU hWm⟩⟩ rfl hn hl.1 rfl (lv_room hroom) hd ⟨Nat.zero_le _, Nat.zero_le _⟩) hS (fun s0 v t h => ⟨Outcome.returned.inj h.1.1, h.1.2, h.2⟩) (fun H1 locs1 hW1 hS1 => ?_)
    · exact kk o.1 o.2 out ho ls hl H1 locs1 hW1 hS1
theorem hr_callVl (hC : hb_C p s m args meth c cc nL own Ts cl kd N ad D dA tb nw) {stk : List Value} {y : MethodName} {bytes : ByteArray} {maxL n index : Nat} {ret : Option FieldType} {ws : List Cond} {rm : Room} {As : List Value} {fl : List (Option Nat)} {ci k : Nat} {q : vw_C} {Cn : String} {fb : Option (Int64 × hb_m)} {K : Int64 → hb_m → Option β} (hs : stk = As.reverse ++ .ref (ad k) :: st) (hM : hb_M (hb_Ql cl kd N ad D dA) l y ws rm cl kd N ad D dA tb nw (.ref (ad k) :: As) μ fb) (hw : CallW R s args own Cn index y bytes maxL ret ws rm 0 0 n) (hk : k < N ∧ kd k = .inl (ci, fl)) (hc : cl[ci]? = some q) (hcn : q.1 = Cn) (hn : As.length = n) (hroom : (st.map fun v => v.category).sum ≤ 8) (hd : decode cc pc = .ok (.invokevirtual index, 3)) (kk : ∀ (r : Int64) (μ1 : hb_m), hb_V p l e R s m args below meth c nL cl kd N ad D dA Qo μ1 (pc + 3) lv (.long r :: st) (K r μ1)) : hb_V p l e R s m args below meth c nL cl kd N ad D dA Qo μ pc lv stk (bl fb K) := by
  subst hs
  intro out ho ls hl H locs hW hS
  cases hfb : fb with
  | none => rw [hfb] at ho; cases ho
  | some o =>
    rw [hfb] at ho
    refine hb_call (μ1 := o.2) (va_runV hC.1 (hM o hfb) hw ⟨hb_blind, ?_, fun U hU hWm => ⟨rfl, hb_at hC (k := 0) hW hS hU hWm⟩⟩ rfl hn hl.1 rfl (lv_room hroom) hd ⟨Nat.zero_le _, Nat.zero_le _⟩) hS (fun s0 v t h => ⟨Outcome.returned.inj h.1.1, h.1.2, h.2⟩) (fun H1 locs1 hW1 hS1 => ?_)
    · subst hcn
      exact va_recv (q0 := k) hC.2.1.1 hW hc (by rw [hb_L_get hk.1, hb_E, hb_E0, hk.2])
    · exact kk o.1 o.2 out ho ls hl H1 locs1 hW1 hS1
theorem hr_callSl (hC : hb_C p s m args meth c cc nL own Ts cl kd N ad D dA tb nw) {stk : List Value} {y : MethodName} {bytes : ByteArray} {maxL n index : Nat} {ret : Option FieldType} {ws : List Cond} {rm : Room} {As : List Value} {fb : Option (Int64 × hb_m)} {K : Int64 → hb_m → Option β} (hs : stk = As.reverse ++ st) (hM : hb_M (hb_Ql cl kd N ad D dA) l y ws rm cl kd N ad D dA tb nw As μ fb) (hw : CallB R s args own index y bytes maxL ret ws rm 0 0 n ∧ (Cond.static y).before args s = true) (hn : As.length = n) (hroom : (st.map fun v => v.category).sum ≤ 8) (hd : decode cc pc = .ok (.invokestatic index, 3)) (kk : ∀ (r : Int64) (μ1 : hb_m), hb_V p l e R s m args below meth c nL cl kd N ad D dA Qo μ1 (pc + 3) lv (.long r :: st) (K r μ1)) : hb_V p l e R s m args below meth c nL cl kd N ad D dA Qo μ pc lv stk (bl fb K) := by
  subst hs
  intro out ho ls hl H locs hW hS
  cases hfb : fb with
  | none => rw [hfb] at ho; cases ho
  | some o =>
    rw [hfb] at ho
    refine hb_call (μ1 := o.2) (va_runS hC.1 (hM o hfb) hw ⟨hb_blind, fun U hU hWm => ⟨rfl, hb_at hC (k := 0) hW hS hU hWm⟩⟩ rfl hn hl.1 rfl (lv_room hroom) hd ⟨Nat.zero_le _, Nat.zero_le _⟩) hS (fun s0 v t h => ⟨Outcome.returned.inj h.1.1, h.1.2, h.2⟩) (fun H1 locs1 hW1 hS1 => ?_)
    · exact kk o.1 o.2 out ho ls hl H1 locs1 hW1 hS1
theorem hr_callSNl (hC : hb_C p s m args meth c cc nL own Ts cl kd N ad D dA tb nw) {stk : List Value} {y : MethodName} {bytes : ByteArray} {maxL n index : Nat} {ret : Option FieldType} {ws : List Cond} {rm : Room} {As : List Value} {host : String} {fb : Option (Int64 × hb_m)} {K : Int64 → hb_m → Option β} (hs : stk = As.reverse ++ st) (hM : hb_M (hb_Ql cl kd N ad D dA) l y ws rm cl kd N ad D dA tb nw As μ fb) (hw : va_CN R s args own index y host bytes maxL ret ws rm 0 0 n ∧ (Cond.static y).before args s = true ∧ True) (hn : As.length = n) (hroom : (st.map fun v => v.category).sum ≤ 8) (hd : decode cc pc = .ok (.invokestatic index, 3)) (kk : ∀ (r : Int64) (μ1 : hb_m), hb_V p l e R s m args below meth c nL cl kd N ad D dA Qo μ1 (pc + 3) lv (.long r :: st) (K r μ1)) : hb_V p l e R s m args below meth c nL cl kd N ad D dA Qo μ pc lv stk (bl fb K) := by
  subst hs
  intro out ho ls hl H locs hW hS
  cases hfb : fb with
  | none => rw [hfb] at ho; cases ho
  | some o =>
    rw [hfb] at ho
    refine hb_call (μ1 := o.2) (va_runSN hC.1 (hM o hfb) hw ⟨hb_blind, fun U hU hWm => ⟨rfl, hb_at hC (k := 0) hW hS hU hWm⟩⟩ rfl hn hl.1 rfl (lv_room hroom) hd ⟨Nat.zero_le _, Nat.zero_le _⟩) hS (fun s0 v t h => ⟨Outcome.returned.inj h.1.1, h.1.2, h.2⟩) (fun H1 locs1 hW1 hS1 => ?_)
    · exact kk o.1 o.2 out ho ls hl H1 locs1 hW1 hS1
theorem hr_callVv (hC : hb_C p s m args meth c cc nL own Ts cl kd N ad D dA tb nw) {stk : List Value} {y : MethodName} {bytes : ByteArray} {maxL n index : Nat} {ret : Option FieldType} {ws : List Cond} {rm : Room} {As : List Value} {fl : List (Option Nat)} {ci k : Nat} {q : vw_C} {Cn : String} {fb : Option (hb_m)} {K : hb_m → Option β} (hs : stk = As.reverse ++ .ref (ad k) :: st) (hM : hb_M (hb_Qv cl kd N ad D dA) l y ws rm cl kd N ad D dA tb nw (.ref (ad k) :: As) μ fb) (hw : CallW R s args own Cn index y bytes maxL ret ws rm 0 0 n) (hk : k < N ∧ kd k = .inl (ci, fl)) (hc : cl[ci]? = some q) (hcn : q.1 = Cn) (hn : As.length = n) (hroom : (st.map fun v => v.category).sum ≤ 8) (hd : decode cc pc = .ok (.invokevirtual index, 3)) (kk : ∀ μ1 : hb_m, hb_V p l e R s m args below meth c nL cl kd N ad D dA Qo μ1 (pc + 3) lv st (K μ1)) : hb_V p l e R s m args below meth c nL cl kd N ad D dA Qo μ pc lv stk (bv fb K) := by
  subst hs
  intro out ho ls hl H locs hW hS
  cases hfb : fb with
  | none => rw [hfb] at ho; cases ho
  | some o =>
    rw [hfb] at ho
    refine hb_call (μ1 := o) (va_runV hC.1 (hM o hfb) hw ⟨hb_blind, ?_, fun U hU hWm => ⟨rfl, hb_at hC (k := 0) hW hS hU hWm⟩⟩ rfl hn hl.1 rfl (lv_room hroom) hd ⟨Nat.zero_le _, Nat.zero_le _⟩) hS (fun s0 v t h => ⟨Outcome.returned.inj h.1.1, h.1.2, h.2⟩) (fun H1 locs1 hW1 hS1 => ?_)
    · subst hcn
      exact va_recv (q0 := k) hC.2.1.1 hW hc (by rw [hb_L_get hk.1, hb_E, hb_E0, hk.2])
    · exact kk o out ho ls hl H1 locs1 hW1 hS1
theorem hr_callSv (hC : hb_C p s m args meth c cc nL own Ts cl kd N ad D dA tb nw) {stk : List Value} {y : MethodName} {bytes : ByteArray} {maxL n index : Nat} {ret : Option FieldType} {ws : List Cond} {rm : Room} {As : List Value} {fb : Option (hb_m)} {K : hb_m → Option β} (hs : stk = As.reverse ++ st) (hM : hb_M (hb_Qv cl kd N ad D dA) l y ws rm cl kd N ad D dA tb nw As μ fb) (hw : CallB R s args own index y bytes maxL ret ws rm 0 0 n ∧ (Cond.static y).before args s = true) (hn : As.length = n) (hroom : (st.map fun v => v.category).sum ≤ 8) (hd : decode cc pc = .ok (.invokestatic index, 3)) (kk : ∀ μ1 : hb_m, hb_V p l e R s m args below meth c nL cl kd N ad D dA Qo μ1 (pc + 3) lv st (K μ1)) : hb_V p l e R s m args below meth c nL cl kd N ad D dA Qo μ pc lv stk (bv fb K) := by
  subst hs
  intro out ho ls hl H locs hW hS
  cases hfb : fb with
  | none => rw [hfb] at ho; cases ho
  | some o =>
    rw [hfb] at ho
    refine hb_call (μ1 := o) (va_runS hC.1 (hM o hfb) hw ⟨hb_blind, fun U hU hWm => ⟨rfl, hb_at hC (k := 0) hW hS hU hWm⟩⟩ rfl hn hl.1 rfl (lv_room hroom) hd ⟨Nat.zero_le _, Nat.zero_le _⟩) hS (fun s0 v t h => ⟨Outcome.returned.inj h.1.1, h.1.2, h.2⟩) (fun H1 locs1 hW1 hS1 => ?_)
    · exact kk o out ho ls hl H1 locs1 hW1 hS1
theorem hr_callSNv (hC : hb_C p s m args meth c cc nL own Ts cl kd N ad D dA tb nw) {stk : List Value} {y : MethodName} {bytes : ByteArray} {maxL n index : Nat} {ret : Option FieldType} {ws : List Cond} {rm : Room} {As : List Value} {host : String} {fb : Option (hb_m)} {K : hb_m → Option β} (hs : stk = As.reverse ++ st) (hM : hb_M (hb_Qv cl kd N ad D dA) l y ws rm cl kd N ad D dA tb nw As μ fb) (hw : va_CN R s args own index y host bytes maxL ret ws rm 0 0 n ∧ (Cond.static y).before args s = true ∧ True) (hn : As.length = n) (hroom : (st.map fun v => v.category).sum ≤ 8) (hd : decode cc pc = .ok (.invokestatic index, 3)) (kk : ∀ μ1 : hb_m, hb_V p l e R s m args below meth c nL cl kd N ad D dA Qo μ1 (pc + 3) lv st (K μ1)) : hb_V p l e R s m args below meth c nL cl kd N ad D dA Qo μ pc lv stk (bv fb K) := by
  subst hs
  intro out ho ls hl H locs hW hS
  cases hfb : fb with
  | none => rw [hfb] at ho; cases ho
  | some o =>
    rw [hfb] at ho
    refine hb_call (μ1 := o) (va_runSN hC.1 (hM o hfb) hw ⟨hb_blind, fun U hU hWm => ⟨rfl, hb_at hC (k := 0) hW hS hU hWm⟩⟩ rfl hn hl.1 rfl (lv_room hroom) hd ⟨Nat.zero_le _, Nat.zero_le _⟩) hS (fun s0 v t h => ⟨Outcome.returned.inj h.1.1, h.1.2, h.2⟩) (fun H1 locs1 hW1 hS1 => ?_)
    · exact kk o out ho ls hl H1 locs1 hW1 hS1
theorem hr_callVr (hC : hb_C p s m args meth c cc nL own Ts cl kd N ad D dA tb nw) {stk : List Value} {y : MethodName} {bytes : ByteArray} {maxL n index : Nat} {ret : Option FieldType} {ws : List Cond} {rm : Room} {As : List Value} {fl : List (Option Nat)} {ci k : Nat} {q : vw_C} {Cn : String} {fb : Option (Option Nat × hb_m)} {K0 : hb_m → Option β} {K1 : Nat → hb_m → Option β} (hs : stk = As.reverse ++ .ref (ad k) :: st) (hM : hb_M (hb_Qr cl kd N ad D dA) l y ws rm cl kd N ad D dA tb nw (.ref (ad k) :: As) μ fb) (hw : CallW R s args own Cn index y bytes maxL ret ws rm 0 0 n) (hk : k < N ∧ kd k = .inl (ci, fl)) (hc : cl[ci]? = some q) (hcn : q.1 = Cn) (hn : As.length = n) (hroom : (st.map fun v => v.category).sum ≤ 8) (hd : decode cc pc = .ok (.invokevirtual index, 3)) (k0 : ∀ μ1 : hb_m, hb_V p l e R s m args below meth c nL cl kd N ad D dA Qo μ1 (pc + 3) lv (.null :: st) (K0 μ1)) (k1 : ∀ (r : Nat) (μ1 : hb_m), fb = some (some r, μ1) → hb_V p l e R s m args below meth c nL cl kd N ad D dA Qo μ1 (pc + 3) lv (.ref (ad r) :: st) (K1 r μ1)) : hb_V p l e R s m args below meth c nL cl kd N ad D dA Qo μ pc lv stk (br fb K0 K1) := by
  subst hs
  intro out ho ls hl H locs hW hS
  cases hfb : fb with
  | none => rw [hfb] at ho; cases ho
  | some o =>
    rw [hfb] at ho
    refine hb_call (μ1 := o.2) (va_runV hC.1 (hM o hfb) hw ⟨hb_blind, ?_, fun U hU hWm => ⟨rfl, hb_at hC (k := 0) hW hS hU hWm⟩⟩ rfl hn hl.1 rfl (lv_room hroom) hd ⟨Nat.zero_le _, Nat.zero_le _⟩) hS (fun s0 v t h => ⟨Outcome.returned.inj h.1.1, h.1.2, h.2⟩) (fun H1 locs1 hW1 hS1 => ?_)
    · subst hcn
      exact va_recv (q0 := k) hC.2.1.1 hW hc (by rw [hb_L_get hk.1, hb_E, hb_E0, hk.2])
    · obtain ⟨o1, o2⟩ := o
      cases o1 with
      | none => exact k0 o2 out ho ls hl H1 locs1 hW1 hS1
      | some r => exact k1 r o2 hfb out ho ls hl H1 locs1 hW1 hS1
theorem hr_callSr (hC : hb_C p s m args meth c cc nL own Ts cl kd N ad D dA tb nw) {stk : List Value} {y : MethodName} {bytes : ByteArray} {maxL n index : Nat} {ret : Option FieldType} {ws : List Cond} {rm : Room} {As : List Value} {fb : Option (Option Nat × hb_m)} {K0 : hb_m → Option β} {K1 : Nat → hb_m → Option β} (hs : stk = As.reverse ++ st) (hM : hb_M (hb_Qr cl kd N ad D dA) l y ws rm cl kd N ad D dA tb nw As μ fb) (hw : CallB R s args own index y bytes maxL ret ws rm 0 0 n ∧ (Cond.static y).before args s = true) (hn : As.length = n) (hroom : (st.map fun v => v.category).sum ≤ 8) (hd : decode cc pc = .ok (.invokestatic index, 3)) (k0 : ∀ μ1 : hb_m, hb_V p l e R s m args below meth c nL cl kd N ad D dA Qo μ1 (pc + 3) lv (.null :: st) (K0 μ1)) (k1 : ∀ (r : Nat) (μ1 : hb_m), fb = some (some r, μ1) → hb_V p l e R s m args below meth c nL cl kd N ad D dA Qo μ1 (pc + 3) lv (.ref (ad r) :: st) (K1 r μ1)) : hb_V p l e R s m args below meth c nL cl kd N ad D dA Qo μ pc lv stk (br fb K0 K1) := by
  subst hs
  intro out ho ls hl H locs hW hS
  cases hfb : fb with
  | none => rw [hfb] at ho; cases ho
  | some o =>
    rw [hfb] at ho
    refine hb_call (μ1 := o.2) (va_runS hC.1 (hM o hfb) hw ⟨hb_blind, fun U hU hWm => ⟨rfl, hb_at hC (k := 0) hW hS hU hWm⟩⟩ rfl hn hl.1 rfl (lv_room hroom) hd ⟨Nat.zero_le _, Nat.zero_le _⟩) hS (fun s0 v t h => ⟨Outcome.returned.inj h.1.1, h.1.2, h.2⟩) (fun H1 locs1 hW1 hS1 => ?_)
    · obtain ⟨o1, o2⟩ := o
      cases o1 with
      | none => exact k0 o2 out ho ls hl H1 locs1 hW1 hS1
      | some r => exact k1 r o2 hfb out ho ls hl H1 locs1 hW1 hS1
theorem hr_callSNr (hC : hb_C p s m args meth c cc nL own Ts cl kd N ad D dA tb nw) {stk : List Value} {y : MethodName} {bytes : ByteArray} {maxL n index : Nat} {ret : Option FieldType} {ws : List Cond} {rm : Room} {As : List Value} {host : String} {fb : Option (Option Nat × hb_m)} {K0 : hb_m → Option β} {K1 : Nat → hb_m → Option β} (hs : stk = As.reverse ++ st) (hM : hb_M (hb_Qr cl kd N ad D dA) l y ws rm cl kd N ad D dA tb nw As μ fb) (hw : va_CN R s args own index y host bytes maxL ret ws rm 0 0 n ∧ (Cond.static y).before args s = true ∧ True) (hn : As.length = n) (hroom : (st.map fun v => v.category).sum ≤ 8) (hd : decode cc pc = .ok (.invokestatic index, 3)) (k0 : ∀ μ1 : hb_m, hb_V p l e R s m args below meth c nL cl kd N ad D dA Qo μ1 (pc + 3) lv (.null :: st) (K0 μ1)) (k1 : ∀ (r : Nat) (μ1 : hb_m), fb = some (some r, μ1) → hb_V p l e R s m args below meth c nL cl kd N ad D dA Qo μ1 (pc + 3) lv (.ref (ad r) :: st) (K1 r μ1)) : hb_V p l e R s m args below meth c nL cl kd N ad D dA Qo μ pc lv stk (br fb K0 K1) := by
  subst hs
  intro out ho ls hl H locs hW hS
  cases hfb : fb with
  | none => rw [hfb] at ho; cases ho
  | some o =>
    rw [hfb] at ho
    refine hb_call (μ1 := o.2) (va_runSN hC.1 (hM o hfb) hw ⟨hb_blind, fun U hU hWm => ⟨rfl, hb_at hC (k := 0) hW hS hU hWm⟩⟩ rfl hn hl.1 rfl (lv_room hroom) hd ⟨Nat.zero_le _, Nat.zero_le _⟩) hS (fun s0 v t h => ⟨Outcome.returned.inj h.1.1, h.1.2, h.2⟩) (fun H1 locs1 hW1 hS1 => ?_)
    · obtain ⟨o1, o2⟩ := o
      cases o1 with
      | none => exact k0 o2 out ho ls hl H1 locs1 hW1 hS1
      | some r => exact k1 r o2 hfb out ho ls hl H1 locs1 hW1 hS1
theorem hr_ireti (hC : hb_C p s m args meth c cc nL own Ts cl kd N ad D dA tb nw) {x : Int32} (hr : meth.sig.returnType = some .int) (hd : decode cc pc = .ok (.ireturn, 1)) : hb_V p l e R s m args below meth c nL cl kd N ad D dA (hb_Qi cl kd N ad D dA) μ pc lv [.int x] (some (x, μ)) := by
  intro out ho ls hl H locs hW hS
  cases ho
  exact W.iret hC.1.1 hC.1.2.1 hr (fun t ht hWm => ⟨⟨rfl, by rw [ht]; exact hW⟩, hS.F ht⟩) hS.2.2 hd hC.2.2.2.2.2
theorem hr_lret (hC : hb_C p s m args meth c cc nL own Ts cl kd N ad D dA tb nw) {x : Int64} (hr : meth.sig.returnType = some .long) (hd : decode cc pc = .ok (.lreturn, 1)) : hb_V p l e R s m args below meth c nL cl kd N ad D dA (hb_Ql cl kd N ad D dA) μ pc lv [.long x] (some (x, μ)) := by
  intro out ho ls hl H locs hW hS
  cases ho
  exact W.lret hC.1.1 hC.1.2.1 hr (fun t ht hWm => ⟨⟨rfl, by rw [ht]; exact hW⟩, hS.F ht⟩) hS.2.2 hd hC.2.2.2.2.2
theorem hr_iretz (hC : hb_C p s m args meth c cc nL own Ts cl kd N ad D dA tb nw) {x : Int32} (hr : meth.sig.returnType = some .boolean) (hd : decode cc pc = .ok (.ireturn, 1)) (hx : narrow .boolean (.int x) = .int x) : hb_V p l e R s m args below meth c nL cl kd N ad D dA (hb_Qi cl kd N ad D dA) μ pc lv [.int x] (some (x, μ)) := by
  intro out ho ls hl H locs hW hS
  cases ho
  exact W.zret hC.1.1 hC.1.2.1 hr hx (fun t ht hWm => ⟨⟨rfl, by rw [ht]; exact hW⟩, hS.F ht⟩) hS.2.2 hd hC.2.2.2.2.2
theorem hr_iretzC (hC : hb_C p s m args meth c cc nL own Ts cl kd N ad D dA tb nw) {x : Int32} (hr : meth.sig.returnType = some .boolean) (hd : decode cc pc = .ok (.ireturn, 1)) : hb_V p l e R s m args below meth c nL cl kd N ad D dA (hb_Qi cl kd N ad D dA) μ pc lv [.int x] (if vp_nar .boolean x = x then some (x, μ) else none) := by
  intro out ho
  split at ho
  next h =>
    refine hr_iretz hC hr hd ?_ out ho
    have h1 : narrow .boolean (.int x) = .int (vp_nar .boolean x) := rfl
    rw [h1, h]
  next h => cases ho
theorem hr_vret (hC : hb_C p s m args meth c cc nL own Ts cl kd N ad D dA tb nw) (hr : meth.sig.returnType = none) (hd : decode cc pc = .ok (.return_, 1)) : hb_V p l e R s m args below meth c nL cl kd N ad D dA (hb_Qv cl kd N ad D dA) μ pc lv [] (some μ) := by
  intro out ho ls hl H locs hW hS
  cases ho
  exact W.vret hC.1.1 hC.1.2.1 hr (fun t ht hWm => ⟨⟨rfl, by rw [ht]; exact hW⟩, hS.F ht⟩) hS.2.2 hd hC.2.2.2.2.2
theorem hr_aret (hC : hb_C p s m args meth c cc nL own Ts cl kd N ad D dA tb nw) {k : Nat} {cn : String} (hr : meth.sig.returnType = some (.object cn)) (hd : decode cc pc = .ok (.areturn, 1)) : hb_V p l e R s m args below meth c nL cl kd N ad D dA (hb_Qr cl kd N ad D dA) μ pc lv [.ref (ad k)] (some (some k, μ)) := by
  intro out ho ls hl H locs hW hS
  cases ho
  exact W.aret (v := .ref (ad k)) hC.1.1 hC.1.2.1 hr (Or.inl ⟨cn, rfl⟩) (Or.inr ⟨_, rfl⟩) (fun t ht hWm => ⟨⟨rfl, by rw [ht]; exact hW⟩, hS.F ht⟩) hS.2.2 hd hC.2.2.2.2.2
theorem hr_aretN (hC : hb_C p s m args meth c cc nL own Ts cl kd N ad D dA tb nw) {cn : String} (hr : meth.sig.returnType = some (.object cn)) (hd : decode cc pc = .ok (.areturn, 1)) : hb_V p l e R s m args below meth c nL cl kd N ad D dA (hb_Qr cl kd N ad D dA) μ pc lv [.null] (some (none, μ)) := by
  intro out ho ls hl H locs hW hS
  cases ho
  exact W.aret (v := .null) hC.1.1 hC.1.2.1 hr (Or.inl ⟨cn, rfl⟩) (Or.inl rfl) (fun t ht hWm => ⟨⟨rfl, by rw [ht]; exact hW⟩, hS.F ht⟩) hS.2.2 hd hC.2.2.2.2.2
end HBR
/-- from the walk to the contract -/
theorem hb_start {β : Type} {Qo : β → Array Value → State → Outcome → State → Prop} {l : Launch} {y : MethodName} {ws ws' : List Cond} {rm : Room} {cc : ByteArray} {maxL : Nat} {ret : Option FieldType} {cl : List vw_C} {kd : Nat → hb_k} {N : Nat} {ad : Nat → Nat} {D : va_G} {dA : Nat → ClassId} {tb : List hb_tb} {nw : List hb_nw} {av : List Value} {μ : hb_m} {b : Option β} (hy : plainName y.cls = true) (hw : ws = Cond.code y cc maxL ret :: ws') (hI : hb_I N ad) (hn : (lg_sl av).length ≤ maxL) (lv : List (Nat × Value)) (hlv : lv_args 0 av = lv)
    (body : ∀ (p : Program) (e : Env) (s : State) (m : MethodId) (args : Array Value) (below : List Frame) (meth : Method) (c : Code), hb_C p s m args meth c cc maxL y.cls ws cl kd N ad D dA tb nw → meth.sig.returnType = ret → hb_V p l e rm s m args below meth c maxL cl kd N ad D dA Qo μ 0 lv [] b) : hb_M Qo l y ws rm cl kd N ad D dA tb nw av μ b := by
  intro out ho
  refine Met.ofW (cc := cc) (maxL := maxL) (ret := ret) hy hw ?_
  intro p e s m args below meth c s₁ B hml hv
  obtain ⟨rfl, hW, hK, hT, hN⟩ := hv
  rw [lg_entry_eq]
  subst hlv
  exact body p e s m _ below meth c ⟨⟨B.exec, B.bytes, hml, findClass_of_methodNamed B.named, atoms_spec (ws := ws) B.pre⟩, hK, hI, hT, hN, B.notSynchronized⟩ B.returns out ho _ (lv_entry av hn) s.heap [] hW va_S.rf

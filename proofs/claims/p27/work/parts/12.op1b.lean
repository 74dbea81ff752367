/-! QUESTIONS: only the house that is now is spoken of; ga, gb: the memories at the beginning -/
def QF (a μ : hb_m) : Prop := fX a μ ∧ ∀ k i, k < 38 → k ≠ 11 → rd μ k i = rd a k i
def QM (b ν : hb_m) : Prop := fM b ν ∧ ∀ i, rd ν 1 i = rd b 1 i
theorem QF_rf {μ : hb_m} : QF μ μ := ⟨fX_rf, fun _ _ _ _ => rfl⟩
theorem QF_tr {μ μ1 μ2 : hb_m} (h : QF μ μ1) (h1 : QF μ1 μ2) : QF μ μ2 := ⟨fX_tr h.1 h1.1, fun k i a b => (h1.2 k i a b).trans (h.2 k i a b)⟩
theorem QM_rf {μ : hb_m} : QM μ μ := ⟨fM_rf, fun _ => rfl⟩
theorem QM_tr {μ μ1 μ2 : hb_m} (h : QM μ μ1) (h1 : QM μ1 μ2) : QM μ μ2 := ⟨fM_tr h.1 h1.1, fun i => (h1.2 i).trans (h.2 i)⟩
def RQ (a b μ ν : hb_m) : Prop := Sim μ 0 (rd ν 1) ∧ QF a μ ∧ QM b ν
theorem RQ_q {a b μ μ' ν ν' : hb_m} (h : RQ a b μ ν) (h1 : fX μ μ') (h2 : fM ν ν') (h3 : ∀ k i, k < 38 → k ≠ 11 → rd μ' k i = rd μ k i) (h4 : ∀ i, rd ν' 1 i = rd ν 1 i) : RQ a b μ' ν' :=
  ⟨Sim_row (Sim_fr h.1 (fun k i _ b2 b3 => h3 k i (by omega) (by omega))) (fun k _ => h4 k), QF_tr h.2.1 ⟨h1, h3⟩, QM_tr h.2.2 ⟨h2, h4⟩⟩
theorem RQ_rf {μ ν : hb_m} (h : Sim μ 0 (rd ν 1)) : RQ μ ν μ ν := ⟨h, QF_rf, QM_rf⟩
theorem RQ_RR {μ ν μ' ν' : hb_m} (h : RR μ ν) (q : RQ μ ν μ' ν') : RR μ' ν' := RR_q h q.2.1.1 q.2.2.1 q.2.1.2 q.2.2.2
def Oq {α : Type} (a b : hb_m) (x y : Option (α × hb_m)) : Prop := ∃ r μ' ν', x = some (r, μ') ∧ y = some (r, ν') ∧ RQ a b μ' ν'
theorem oq_mk {α : Type} {a b : hb_m} {x y : α} {μ ν : hb_m} (e : x = y) (h : RQ a b μ ν) : Oq a b (some (x, μ)) (some (y, ν)) := ⟨x, μ, ν, rfl, by rw [e], h⟩
theorem Oq_op {α : Type} {μ ν : hb_m} {x y : Option (α × hb_m)} (h : RR μ ν) (q : Oq μ ν x y) : Op x y := by
  obtain ⟨r, μ', ν', e1, e2, e3⟩ := q
  exact ⟨r, μ', ν', e1, e2, RQ_RR h e3⟩
theorem op_mk {α : Type} {x y : α} {μ ν : hb_m} (e : x = y) (h : RR μ ν) : Op (some (x, μ)) (some (y, ν)) := ⟨x, μ, ν, rfl, by rw [e], h⟩

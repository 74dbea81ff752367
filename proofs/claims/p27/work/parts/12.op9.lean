/-! BOTH SIDES: questions, over the whole relation -/
theorem O_flat {n : Nat} {p1 p2 : Int32} {μ ν : hb_m} (h : RR μ ν) (hn : 2147483648 ≤ n) : Op (fX5_flat n p1 p2 μ) (fX6_flat n p1 p2 ν) := Oq_op h (Q_flat (RQ_rf h.1) hn)
theorem O_device {n : Nat} {p1 p2 : Int32} {μ ν : hb_m} (h : RR μ ν) (hn : 2147483648 ≤ n) : Op (fX5_device n p1 p2 μ) (fX6_device n p1 p2 ν) := Oq_op h (Q_device (RQ_rf h.1) hn)
theorem O_draft {n : Nat} {p1 p2 : Int32} {μ ν : hb_m} (h : RR μ ν) (hn : 2147483648 ≤ n) : Op (fX5_draft n p1 p2 μ) (fX6_draft n p1 p2 ν) := Oq_op h (Q_draft (RQ_rf h.1) hn)
theorem O_bill {n : Nat} {p1 p2 p3 p4 : Int32} {μ ν : hb_m} (h : RR μ ν) : Op (fX5_bill n p1 p2 p3 p4 μ) (fX6_bill n p1 p2 p3 p4 ν) := Oq_op h (Q_bill (RQ_rf h.1))
theorem O_units {n : Nat} {p1 p2 : Int32} {μ ν : hb_m} (h : RR μ ν) : Op (fX5_units n p1 p2 μ) (fX6_units n p1 p2 ν) := Oq_op h (Q_units (RQ_rf h.1))
theorem O_billIf {n : Nat} {p1 p2 : Int32} {μ ν : hb_m} (h : RR μ ν) (hn : 2147483648 ≤ n) : Op (fX5_billIf n p1 p2 μ) (fX6_billIf n p1 p2 ν) := Oq_op h (Q_billIf (RQ_rf h.1) hn)
theorem O_bestShare {n : Nat} {p1 : Int32} {μ ν : hb_m} (h : RR μ ν) (hn : 2147483648 ≤ n) : Op (fX5_bestShare n p1 μ) (fX6_bestShare n p1 ν) := Oq_op h (Q_bestShare (RQ_rf h.1) hn)
theorem O_greatest {n : Nat} {p : Int32} {μ ν : hb_m} (h : RR μ ν) (hn : 2147483648 ≤ n) : Op (fX5_greatest n p μ) (fX6_greatest n p ν) := Oq_op h (Q_greatest (RQ_rf h.1) hn)
theorem O_count {n : Nat} {p : Int32} {μ ν : hb_m} (h : RR μ ν) (hn : 2147483648 ≤ n) : Op (fX5_count n p μ) (fX6_count n p ν) := Oq_op h (Q_count (fun _ => by obtain ⟨-, ⟨hh, o, -, -, -, q4, q5, -⟩, -⟩ := id h; exact q4.trans q5.symm) (fun _ => by obtain ⟨-, -, -, ⟨t, -, t2, t3, -⟩⟩ := id h; exact t2.trans t3.symm) (RQ_rf h.1) hn)
theorem Q_openR {n : Nat} {μ ν : hb_m} (h : RR μ ν) (hn : 2147483648 ≤ n) : ∃ F D Y μ' ν', Inv (rd ν 1) F D Y ∧ Rep μ 0 (rd ν 1) F D Y ∧ fX5_drawUpOpenYear n μ = some μ' ∧ fX6_laysOpen n (rd ν 1 4) ν = some ν' ∧ RR μ' ν' ∧ Rep μ' 0 (rd ν 1) F D Y ∧ rd ν' 1 = rd ν 1 ∧ (∀ i, i < F → rd μ' 237 i = rd ν' 9 i ∧ rd μ' 238 i = rd ν' 10 i) ∧ (∀ f, f < 8 → rd μ' 236 f = rd ν' 8 f ∧ rd μ' 236 f = p_fU (p_uN (rd ν 1) D Y) (rd ν 1) D f) ∧ (∀ d, d < D → rd μ' 11 d = p_uN (rd ν 1) D Y d) ∧ fX μ μ' ∧ fM ν ν' ∧ (∀ k i, k < 38 → k ≠ 11 → rd μ' k i = rd μ k i) := by
  obtain ⟨F, D, Y, μ', ν', hi, hr, e1, e2, hR, rest⟩ := Q_open (RQ_rf h.1) hn
  exact ⟨F, D, Y, μ', ν', hi, hr, e1, e2, RQ_RR h hR, rest⟩

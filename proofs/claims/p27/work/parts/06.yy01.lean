theorem hmL_part_7 : Cond.constant RL 7 (2147483647) ∈ wsL_part := List.mem_of_getElem? (i := 1) rfl
def fL_part (n : Nat) (p0 : Int32) (p1 : Int32) (μ : hb_m) : Option (Int32 × hb_m) :=
if p1 = 0 then none else
some (((p0 &&& (2147483647 : Int32)) - (p0 &&& (2147483647 : Int32)) / p1 * p1), μ)
abbrev rmL_part : Room := { frames := 0, cells := 0, slots := 0, locals := 0 }
set_option maxRecDepth 100000 in
set_option maxHeartbeats 4000000 in
theorem tL_part {l : Launch} {D : va_G} {ad : Nat → Nat} {dA : Nat → ClassId} {t1 t2 : Nat} (hI : hb_I 241 ad) (n : Nat) (p0 : Int32) (p1 : Int32) (μ : hb_m) : hb_M (hb_Qi vwCl kdX 241 ad D dA) l yL_part wsL_part rmL_part vwCl kdX 241 ad D dA (tbX t1 t2) nwX [.int p0, .int p1] μ (fL_part n p0 p1 μ) := by
  refine hb_start (cc := cL_part) (maxL := 2) (ret := (some .int)) (by decide) rfl hI (Nat.le_of_ble_eq_true rfl) [(0, .int p0), (1, .int p1)] rfl ?_
  intro p e s m args below meth c hC hr
  rw [fL_part]
  refine hr_iload_n hC dL_part_0 rfl 0 rfl ?_
  refine hr_ldc (v := 2147483647) hC dL_part_1 hmL_part_7 ?_
  refine hr_iand hC dL_part_3 ?_
  refine hr_iload_n hC dL_part_4 rfl 1 rfl ?_
  refine hr_iremZ hC dL_part_5 ?_
  exact hr_ireti hC hr dL_part_6
theorem hmL_seen_9 : Cond.constantLong RL 9 (7) ∈ wsL_seen := List.mem_of_getElem? (i := 1) rfl
theorem hmL_seen_11 : Cond.constantLong RL 11 (31) ∈ wsL_seen := List.mem_of_getElem? (i := 2) rfl
def lL_seen_6 (n : Nat) (k : Int32 → Int64 → hb_m → Option (Int64 × hb_m)) : Nat → Int32 → Int64 → hb_m → Option (Int64 × hb_m)
  | 0, _, _, _ => none
  | f + 1, x3, x1, μ => if (13 : Int32) ≤ x3 then
(k x3 x1 μ)
else
(bi (fX5_count n x3 μ) (fun r19 m19 =>
lL_seen_6 n k f (x3 + (1 : Int32)) (((31 : Int64) * x1) + r19.toInt64) m19))
def lL_seen_33 (n : Nat) (k : Int32 → Int64 → hb_m → Option (Int64 × hb_m)) : Nat → Int32 → Int64 → hb_m → Option (Int64 × hb_m)
  | 0, _, _, _ => none
  | f + 1, x3, x1, μ => bi (fX5_count n (1 : Int32) μ) (fun r38 m38 =>
if ((8 : Int32) * r38) ≤ x3 then
(k x3 x1 m38)
else
(bi (fX5_flat n (x3 / (8 : Int32)) (x3 - x3 / (8 : Int32) * (8 : Int32)) m38) (fun r59 m59 =>
lL_seen_33 n k f (x3 + (1 : Int32)) (((31 : Int64) * x1) + r59.toInt64) m59)))
def lL_seen_73 (n : Nat) (k : Int32 → Int64 → hb_m → Option (Int64 × hb_m)) : Nat → Int32 → Int64 → hb_m → Option (Int64 × hb_m)
  | 0, _, _, _ => none
  | f + 1, x3, x1, μ => bi (fX5_count n (2 : Int32) μ) (fun r78 m78 =>
if ((6 : Int32) * r78) ≤ x3 then
(k x3 x1 m78)
else
(bi (fX5_device n (x3 / (6 : Int32)) (x3 - x3 / (6 : Int32) * (6 : Int32)) m78) (fun r99 m99 =>
lL_seen_73 n k f (x3 + (1 : Int32)) (((31 : Int64) * x1) + r99.toInt64) m99)))
def lL_seen_128 (n : Nat) (v3 : Int32) (k : Int32 → Int64 → hb_m → Option (Int64 × hb_m)) : Nat → Int32 → Int64 → hb_m → Option (Int64 × hb_m)
  | 0, _, _, _ => none
  | f + 1, x4, x1, μ => if (4 : Int32) ≤ x4 then
(k x4 x1 μ)
else
(if (x4 - x4 / (2 : Int32) * (2 : Int32)) = (1 : Int32) then
(if x4 ≤ (1 : Int32) then
(bi (fX5_bill n (v3 / (8 : Int32)) (v3 - v3 / (8 : Int32) * (8 : Int32)) (1 : Int32) (0 : Int32) μ) (fun r172 m172 =>
lL_seen_128 n v3 k f (x4 + (1 : Int32)) (((31 : Int64) * x1) + r172.toInt64) m172))
else
(bi (fX5_bill n (v3 / (8 : Int32)) (v3 - v3 / (8 : Int32) * (8 : Int32)) (1 : Int32) (1 : Int32) μ) (fun r172 m172 =>
lL_seen_128 n v3 k f (x4 + (1 : Int32)) (((31 : Int64) * x1) + r172.toInt64) m172)))
else
(if x4 ≤ (1 : Int32) then
(bi (fX5_bill n (v3 / (8 : Int32)) (v3 - v3 / (8 : Int32) * (8 : Int32)) (0 : Int32) (0 : Int32) μ) (fun r172 m172 =>
lL_seen_128 n v3 k f (x4 + (1 : Int32)) (((31 : Int64) * x1) + r172.toInt64) m172))
else
(bi (fX5_bill n (v3 / (8 : Int32)) (v3 - v3 / (8 : Int32) * (8 : Int32)) (0 : Int32) (1 : Int32) μ) (fun r172 m172 =>
lL_seen_128 n v3 k f (x4 + (1 : Int32)) (((31 : Int64) * x1) + r172.toInt64) m172))))
def lL_seen_113 (n : Nat) (k : Int32 → Int64 → hb_m → Option (Int64 × hb_m)) : Nat → Int32 → Int64 → hb_m → Option (Int64 × hb_m)
  | 0, _, _, _ => none
  | f + 1, x3, x1, μ => bi (fX5_count n (0 : Int32) μ) (fun r118 m118 =>
if ((8 : Int32) * r118) ≤ x3 then
(k x3 x1 m118)
else
(lL_seen_128 n x3 (fun x4_128 x1_128 m128 =>
lL_seen_113 n k f (x3 + (1 : Int32)) x1_128 m128) n (0 : Int32) x1 m118))
def lL_seen_192 (n : Nat) (k : Int32 → Int64 → hb_m → Option (Int64 × hb_m)) : Nat → Int32 → Int64 → hb_m → Option (Int64 × hb_m)
  | 0, _, _, _ => none
  | f + 1, x3, x1, μ => bi (fX5_count n (0 : Int32) μ) (fun r197 m197 =>
if ((20 : Int32) * r197) ≤ x3 then
(k x3 x1 m197)
else
(bi (fX5_units n (x3 / (20 : Int32)) (x3 - x3 / (20 : Int32) * (20 : Int32)) m197) (fun r218 m218 =>
lL_seen_192 n k f (x3 + (1 : Int32)) (((31 : Int64) * x1) + r218.toInt64) m218)))
def fL_seen (n : Nat) (μ : hb_m) : Option (Int64 × hb_m) :=
lL_seen_6 n (fun x3_6 x1_6 m6 =>
lL_seen_33 n (fun x3_33 x1_33 m33 =>
lL_seen_73 n (fun x3_73 x1_73 m73 =>
lL_seen_113 n (fun x3_113 x1_113 m113 =>
lL_seen_192 n (fun x3_192 x1_192 m192 =>
some (x1_192, m192)) n (0 : Int32) x1_113 m113) n (0 : Int32) x1_73 m73) n (0 : Int32) x1_33 m33) n (0 : Int32) x1_6 m6) n (0 : Int32) (7 : Int64) μ
abbrev rmL_seen : Room := { frames := 6, cells := 0, slots := 0, locals := 143 }
set_option maxRecDepth 100000 in
set_option maxHeartbeats 4000000 in
theorem tL_seen {l : Launch} {D : va_G} {ad : Nat → Nat} {dA : Nat → ClassId} {t1 t2 : Nat} (hI : hb_I 241 ad) (n : Nat) (μ : hb_m) : hb_M (hb_Ql vwCl kdX 241 ad D dA) l yL_seen wsL_seen rmL_seen vwCl kdX 241 ad D dA (tbX t1 t2) nwX [.ref (ad 228)] μ (fL_seen n μ) := by
  refine hb_start (cc := cL_seen) (maxL := 5) (ret := (some .long)) (by decide) rfl hI (Nat.le_of_ble_eq_true rfl) [(0, .ref (ad 228))] rfl ?_
  intro p e s m args below meth c hC hr
  have L6 : ∀ (k : Int32 → Int64 → hb_m → Option (Int64 × hb_m)) (hk : ∀ (x3 : Int32) (x1 : Int64) (μ : hb_m), hb_V p l e rmL_seen s m args below meth c 5 vwCl kdX 241 ad D dA (hb_Ql vwCl kdX 241 ad D dA) μ 31 [(3, .int x3), (1, .long x1), (0, .ref (ad 228))] [] (k x3 x1 μ)) (f : Nat) (x3 : Int32) (x1 : Int64) (μ : hb_m), hb_V p l e rmL_seen s m args below meth c 5 vwCl kdX 241 ad D dA (hb_Ql vwCl kdX 241 ad D dA) μ 6 [(3, .int x3), (1, .long x1), (0, .ref (ad 228))] [] (lL_seen_6 n k f x3 x1 μ) := by
    intro k hk f
    induction f with
    | zero => intro x3 x1 μ; rw [lL_seen_6]; exact hr_none
    | succ f ih =>
      intro x3 x1 μ
      rw [lL_seen_6]
      refine hr_iload_n hC dL_seen_6 rfl 0 rfl ?_
      refine hr_bipush (v := 13) hC dL_seen_7 (by decide) ?_
      refine hr_icmp_ge (tgt := 31) hC dL_seen_9 (by decide) (fun _ => ?_) (fun _ => ?_)
      · refine hr_sub (lv' := [(3, .int x3), (1, .long x1), (0, .ref (ad 228))]) [0, 1, 2] rfl ?_
        exact hk _ _ _
      · refine hr_ldc2 (v := 31) hC dL_seen_12 hmL_seen_11 ?_
        refine hr_lload_n hC dL_seen_15 rfl 1 rfl ?_
        refine hr_lmul hC dL_seen_16 ?_
        refine hr_aload_n hC dL_seen_17 rfl 2 rfl ?_
        refine hr_iload_n hC dL_seen_18 rfl 0 rfl ?_
        refine hr_callVi (As := [.int x3]) (k := 228) hC rfl (tX5_count (t1 := t1) (t2 := t2) hI n x3 μ) (cwV 1 hC.1.2.2.2.2 gL_seen_X5_count rfl rfl rfl (by decide +kernel) ⟨Nat.le_of_ble_eq_true rfl, Nat.le_of_ble_eq_true rfl⟩) kx228 rfl rfl rfl (Nat.le_of_ble_eq_true rfl) dL_seen_19 (fun r19 m19 => ?_)
        refine hr_i2l hC dL_seen_22 ?_
        refine hr_ladd hC dL_seen_23 ?_
        refine hr_lstore_n (lv' := [(1, .long (((31 : Int64) * x1) + r19.toInt64)), (3, .int x3), (0, .ref (ad 228))]) hC dL_seen_24 rfl (by decide) rfl ?_
        refine hr_iinc (v := (x3 + (1 : Int32))) (lv' := [(3, .int (x3 + (1 : Int32))), (1, .long (((31 : Int64) * x1) + r19.toInt64)), (0, .ref (ad 228))]) (kx := 1) hC dL_seen_25 rfl rfl (by decide) rfl ?_
        refine hr_goto (tgt := 6) hC dL_seen_28 (by decide) ?_
        refine hr_sub (lv' := [(3, .int (x3 + (1 : Int32))), (1, .long (((31 : Int64) * x1) + r19.toInt64)), (0, .ref (ad 228))]) [0, 1, 2] rfl ?_
        exact ih _ _ _
  have L33 : ∀ (k : Int32 → Int64 → hb_m → Option (Int64 × hb_m)) (hk : ∀ (x3 : Int32) (x1 : Int64) (μ : hb_m), hb_V p l e rmL_seen s m args below meth c 5 vwCl kdX 241 ad D dA (hb_Ql vwCl kdX 241 ad D dA) μ 71 [(3, .int x3), (1, .long x1), (0, .ref (ad 228))] [] (k x3 x1 μ)) (f : Nat) (x3 : Int32) (x1 : Int64) (μ : hb_m), hb_V p l e rmL_seen s m args below meth c 5 vwCl kdX 241 ad D dA (hb_Ql vwCl kdX 241 ad D dA) μ 33 [(3, .int x3), (1, .long x1), (0, .ref (ad 228))] [] (lL_seen_33 n k f x3 x1 μ) := by
    intro k hk f
    induction f with
    | zero => intro x3 x1 μ; rw [lL_seen_33]; exact hr_none
    | succ f ih =>
      intro x3 x1 μ
      rw [lL_seen_33]
      refine hr_iload_n hC dL_seen_33 rfl 0 rfl ?_
      refine hr_bipush (v := 8) hC dL_seen_34 (by decide) ?_
      refine hr_aload_n hC dL_seen_36 rfl 2 rfl ?_
      refine hr_iconst (v := 1) hC dL_seen_37 (by decide) ?_
      refine hr_callVi (As := [.int (1 : Int32)]) (k := 228) hC rfl (tX5_count (t1 := t1) (t2 := t2) hI n (1 : Int32) μ) (cwV 1 hC.1.2.2.2.2 gL_seen_X5_count rfl rfl rfl (by decide +kernel) ⟨Nat.le_of_ble_eq_true rfl, Nat.le_of_ble_eq_true rfl⟩) kx228 rfl rfl rfl (Nat.le_of_ble_eq_true rfl) dL_seen_38 (fun r38 m38 => ?_)
      refine hr_imul hC dL_seen_41 ?_
      refine hr_icmp_ge (tgt := 71) hC dL_seen_42 (by decide) (fun _ => ?_) (fun _ => ?_)
      · refine hr_sub (lv' := [(3, .int x3), (1, .long x1), (0, .ref (ad 228))]) [0, 1, 2] rfl ?_
        exact hk _ _ _
      · refine hr_ldc2 (v := 31) hC dL_seen_45 hmL_seen_11 ?_
        refine hr_lload_n hC dL_seen_48 rfl 1 rfl ?_
        refine hr_lmul hC dL_seen_49 ?_
        refine hr_aload_n hC dL_seen_50 rfl 2 rfl ?_
        refine hr_iload_n hC dL_seen_51 rfl 0 rfl ?_
        refine hr_bipush (v := 8) hC dL_seen_52 (by decide) ?_
        refine hr_idiv hC dL_seen_54 (by decide) ?_
        refine hr_iload_n hC dL_seen_55 rfl 0 rfl ?_
        refine hr_bipush (v := 8) hC dL_seen_56 (by decide) ?_
        refine hr_irem hC dL_seen_58 (by decide) ?_
        refine hr_callVi (As := [.int (x3 / (8 : Int32)), .int (x3 - x3 / (8 : Int32) * (8 : Int32))]) (k := 228) hC rfl (tX5_flat (t1 := t1) (t2 := t2) hI n (x3 / (8 : Int32)) (x3 - x3 / (8 : Int32) * (8 : Int32)) m38) (cwV 2 hC.1.2.2.2.2 gL_seen_X5_flat rfl rfl rfl (by decide +kernel) ⟨Nat.le_of_ble_eq_true rfl, Nat.le_of_ble_eq_true rfl⟩) kx228 rfl rfl rfl (Nat.le_of_ble_eq_true rfl) dL_seen_59 (fun r59 m59 => ?_)
        refine hr_i2l hC dL_seen_62 ?_
        refine hr_ladd hC dL_seen_63 ?_
        refine hr_lstore_n (lv' := [(1, .long (((31 : Int64) * x1) + r59.toInt64)), (3, .int x3), (0, .ref (ad 228))]) hC dL_seen_64 rfl (by decide) rfl ?_
        refine hr_iinc (v := (x3 + (1 : Int32))) (lv' := [(3, .int (x3 + (1 : Int32))), (1, .long (((31 : Int64) * x1) + r59.toInt64)), (0, .ref (ad 228))]) (kx := 1) hC dL_seen_65 rfl rfl (by decide) rfl ?_
        refine hr_goto (tgt := 33) hC dL_seen_68 (by decide) ?_
        refine hr_sub (lv' := [(3, .int (x3 + (1 : Int32))), (1, .long (((31 : Int64) * x1) + r59.toInt64)), (0, .ref (ad 228))]) [0, 1, 2] rfl ?_
        exact ih _ _ _
  have L73 : ∀ (k : Int32 → Int64 → hb_m → Option (Int64 × hb_m)) (hk : ∀ (x3 : Int32) (x1 : Int64) (μ : hb_m), hb_V p l e rmL_seen s m args below meth c 5 vwCl kdX 241 ad D dA (hb_Ql vwCl kdX 241 ad D dA) μ 111 [(3, .int x3), (1, .long x1), (0, .ref (ad 228))] [] (k x3 x1 μ)) (f : Nat) (x3 : Int32) (x1 : Int64) (μ : hb_m), hb_V p l e rmL_seen s m args below meth c 5 vwCl kdX 241 ad D dA (hb_Ql vwCl kdX 241 ad D dA) μ 73 [(3, .int x3), (1, .long x1), (0, .ref (ad 228))] [] (lL_seen_73 n k f x3 x1 μ) := by
    intro k hk f
    induction f with
    | zero => intro x3 x1 μ; rw [lL_seen_73]; exact hr_none
    | succ f ih =>
      intro x3 x1 μ
      rw [lL_seen_73]
      refine hr_iload_n hC dL_seen_73 rfl 0 rfl ?_
      refine hr_bipush (v := 6) hC dL_seen_74 (by decide) ?_
      refine hr_aload_n hC dL_seen_76 rfl 2 rfl ?_
      refine hr_iconst (v := 2) hC dL_seen_77 (by decide) ?_
      refine hr_callVi (As := [.int (2 : Int32)]) (k := 228) hC rfl (tX5_count (t1 := t1) (t2 := t2) hI n (2 : Int32) μ) (cwV 1 hC.1.2.2.2.2 gL_seen_X5_count rfl rfl rfl (by decide +kernel) ⟨Nat.le_of_ble_eq_true rfl, Nat.le_of_ble_eq_true rfl⟩) kx228 rfl rfl rfl (Nat.le_of_ble_eq_true rfl) dL_seen_78 (fun r78 m78 => ?_)
      refine hr_imul hC dL_seen_81 ?_
      refine hr_icmp_ge (tgt := 111) hC dL_seen_82 (by decide) (fun _ => ?_) (fun _ => ?_)
      · refine hr_sub (lv' := [(3, .int x3), (1, .long x1), (0, .ref (ad 228))]) [0, 1, 2] rfl ?_
        exact hk _ _ _
      · refine hr_ldc2 (v := 31) hC dL_seen_85 hmL_seen_11 ?_
        refine hr_lload_n hC dL_seen_88 rfl 1 rfl ?_
        refine hr_lmul hC dL_seen_89 ?_
        refine hr_aload_n hC dL_seen_90 rfl 2 rfl ?_
        refine hr_iload_n hC dL_seen_91 rfl 0 rfl ?_
        refine hr_bipush (v := 6) hC dL_seen_92 (by decide) ?_
        refine hr_idiv hC dL_seen_94 (by decide) ?_
        refine hr_iload_n hC dL_seen_95 rfl 0 rfl ?_
        refine hr_bipush (v := 6) hC dL_seen_96 (by decide) ?_
        refine hr_irem hC dL_seen_98 (by decide) ?_
        refine hr_callVi (As := [.int (x3 / (6 : Int32)), .int (x3 - x3 / (6 : Int32) * (6 : Int32))]) (k := 228) hC rfl (tX5_device (t1 := t1) (t2 := t2) hI n (x3 / (6 : Int32)) (x3 - x3 / (6 : Int32) * (6 : Int32)) m78) (cwV 2 hC.1.2.2.2.2 gL_seen_X5_device rfl rfl rfl (by decide +kernel) ⟨Nat.le_of_ble_eq_true rfl, Nat.le_of_ble_eq_true rfl⟩) kx228 rfl rfl rfl (Nat.le_of_ble_eq_true rfl) dL_seen_99 (fun r99 m99 => ?_)
        refine hr_i2l hC dL_seen_102 ?_
        refine hr_ladd hC dL_seen_103 ?_
        refine hr_lstore_n (lv' := [(1, .long (((31 : Int64) * x1) + r99.toInt64)), (3, .int x3), (0, .ref (ad 228))]) hC dL_seen_104 rfl (by decide) rfl ?_
        refine hr_iinc (v := (x3 + (1 : Int32))) (lv' := [(3, .int (x3 + (1 : Int32))), (1, .long (((31 : Int64) * x1) + r99.toInt64)), (0, .ref (ad 228))]) (kx := 1) hC dL_seen_105 rfl rfl (by decide) rfl ?_
        refine hr_goto (tgt := 73) hC dL_seen_108 (by decide) ?_
        refine hr_sub (lv' := [(3, .int (x3 + (1 : Int32))), (1, .long (((31 : Int64) * x1) + r99.toInt64)), (0, .ref (ad 228))]) [0, 1, 2] rfl ?_
        exact ih _ _ _
  have L128 : ∀ (v3 : Int32) (k : Int32 → Int64 → hb_m → Option (Int64 × hb_m)) (hk : ∀ (x4 : Int32) (x1 : Int64) (μ : hb_m), hb_V p l e rmL_seen s m args below meth c 5 vwCl kdX 241 ad D dA (hb_Ql vwCl kdX 241 ad D dA) μ 184 [(4, .int x4), (3, .int v3), (1, .long x1), (0, .ref (ad 228))] [] (k x4 x1 μ)) (f : Nat) (x4 : Int32) (x1 : Int64) (μ : hb_m), hb_V p l e rmL_seen s m args below meth c 5 vwCl kdX 241 ad D dA (hb_Ql vwCl kdX 241 ad D dA) μ 128 [(4, .int x4), (3, .int v3), (1, .long x1), (0, .ref (ad 228))] [] (lL_seen_128 n v3 k f x4 x1 μ) := by
    intro v3 k hk f
    induction f with
    | zero => intro x4 x1 μ; rw [lL_seen_128]; exact hr_none
    | succ f ih =>
      intro x4 x1 μ
      rw [lL_seen_128]
      refine hr_iload hC dL_seen_128 0 rfl ?_
      refine hr_iconst (v := 4) hC dL_seen_130 (by decide) ?_
      refine hr_icmp_ge (tgt := 184) hC dL_seen_131 (by decide) (fun _ => ?_) (fun _ => ?_)
      · refine hr_sub (lv' := [(4, .int x4), (3, .int v3), (1, .long x1), (0, .ref (ad 228))]) [0, 1, 2, 3] rfl ?_
        exact hk _ _ _
      · refine hr_ldc2 (v := 31) hC dL_seen_134 hmL_seen_11 ?_
        refine hr_lload_n hC dL_seen_137 rfl 2 rfl ?_
        refine hr_lmul hC dL_seen_138 ?_
        refine hr_aload_n hC dL_seen_139 rfl 3 rfl ?_
        refine hr_iload_n hC dL_seen_140 rfl 1 rfl ?_
        refine hr_bipush (v := 8) hC dL_seen_141 (by decide) ?_
        refine hr_idiv hC dL_seen_143 (by decide) ?_
        refine hr_iload_n hC dL_seen_144 rfl 1 rfl ?_
        refine hr_bipush (v := 8) hC dL_seen_145 (by decide) ?_
        refine hr_irem hC dL_seen_147 (by decide) ?_
        refine hr_iload hC dL_seen_148 0 rfl ?_
        refine hr_iconst (v := 2) hC dL_seen_150 (by decide) ?_
        refine hr_irem hC dL_seen_151 (by decide) ?_
        refine hr_iconst (v := 1) hC dL_seen_152 (by decide) ?_
        refine hr_icmp_ne (tgt := 160) hC dL_seen_153 (by decide) (fun _ => ?_) (fun _ => ?_)
        · refine hr_iconst (v := 1) hC dL_seen_156 (by decide) ?_
          refine hr_goto (tgt := 161) hC dL_seen_157 (by decide) ?_
          refine hr_iload hC dL_seen_161 0 rfl ?_
          refine hr_iconst (v := 1) hC dL_seen_163 (by decide) ?_
          refine hr_icmp_le (tgt := 171) hC dL_seen_164 (by decide) (fun _ => ?_) (fun _ => ?_)
          · refine hr_iconst (v := 0) hC dL_seen_171 (by decide) ?_
            refine hr_callVi (As := [.int (v3 / (8 : Int32)), .int (v3 - v3 / (8 : Int32) * (8 : Int32)), .int (1 : Int32), .int (0 : Int32)]) (k := 228) hC rfl (tX5_bill (t1 := t1) (t2 := t2) hI n (v3 / (8 : Int32)) (v3 - v3 / (8 : Int32) * (8 : Int32)) (1 : Int32) (0 : Int32) μ) (cwV 4 hC.1.2.2.2.2 gL_seen_X5_bill rfl rfl rfl (by decide +kernel) ⟨Nat.le_of_ble_eq_true rfl, Nat.le_of_ble_eq_true rfl⟩) kx228 rfl rfl rfl (Nat.le_of_ble_eq_true rfl) dL_seen_172 (fun r172 m172 => ?_)
            refine hr_i2l hC dL_seen_175 ?_
            refine hr_ladd hC dL_seen_176 ?_
            refine hr_lstore_n (lv' := [(1, .long (((31 : Int64) * x1) + r172.toInt64)), (4, .int x4), (3, .int v3), (0, .ref (ad 228))]) hC dL_seen_177 rfl (by decide) rfl ?_
            refine hr_iinc (v := (x4 + (1 : Int32))) (lv' := [(4, .int (x4 + (1 : Int32))), (1, .long (((31 : Int64) * x1) + r172.toInt64)), (3, .int v3), (0, .ref (ad 228))]) (kx := 1) hC dL_seen_178 rfl rfl (by decide) rfl ?_
            refine hr_goto (tgt := 128) hC dL_seen_181 (by decide) ?_
            refine hr_sub (lv' := [(4, .int (x4 + (1 : Int32))), (3, .int v3), (1, .long (((31 : Int64) * x1) + r172.toInt64)), (0, .ref (ad 228))]) [0, 2, 1, 3] rfl ?_
            exact ih _ _ _
          · refine hr_iconst (v := 1) hC dL_seen_167 (by decide) ?_
            refine hr_goto (tgt := 172) hC dL_seen_168 (by decide) ?_
            refine hr_callVi (As := [.int (v3 / (8 : Int32)), .int (v3 - v3 / (8 : Int32) * (8 : Int32)), .int (1 : Int32), .int (1 : Int32)]) (k := 228) hC rfl (tX5_bill (t1 := t1) (t2 := t2) hI n (v3 / (8 : Int32)) (v3 - v3 / (8 : Int32) * (8 : Int32)) (1 : Int32) (1 : Int32) μ) (cwV 4 hC.1.2.2.2.2 gL_seen_X5_bill rfl rfl rfl (by decide +kernel) ⟨Nat.le_of_ble_eq_true rfl, Nat.le_of_ble_eq_true rfl⟩) kx228 rfl rfl rfl (Nat.le_of_ble_eq_true rfl) dL_seen_172 (fun r172 m172 => ?_)
            refine hr_i2l hC dL_seen_175 ?_
            refine hr_ladd hC dL_seen_176 ?_
            refine hr_lstore_n (lv' := [(1, .long (((31 : Int64) * x1) + r172.toInt64)), (4, .int x4), (3, .int v3), (0, .ref (ad 228))]) hC dL_seen_177 rfl (by decide) rfl ?_
            refine hr_iinc (v := (x4 + (1 : Int32))) (lv' := [(4, .int (x4 + (1 : Int32))), (1, .long (((31 : Int64) * x1) + r172.toInt64)), (3, .int v3), (0, .ref (ad 228))]) (kx := 1) hC dL_seen_178 rfl rfl (by decide) rfl ?_
            refine hr_goto (tgt := 128) hC dL_seen_181 (by decide) ?_
            refine hr_sub (lv' := [(4, .int (x4 + (1 : Int32))), (3, .int v3), (1, .long (((31 : Int64) * x1) + r172.toInt64)), (0, .ref (ad 228))]) [0, 2, 1, 3] rfl ?_
            exact ih _ _ _
        · refine hr_iconst (v := 0) hC dL_seen_160 (by decide) ?_
          refine hr_iload hC dL_seen_161 0 rfl ?_
          refine hr_iconst (v := 1) hC dL_seen_163 (by decide) ?_
          refine hr_icmp_le (tgt := 171) hC dL_seen_164 (by decide) (fun _ => ?_) (fun _ => ?_)
          · refine hr_iconst (v := 0) hC dL_seen_171 (by decide) ?_
            refine hr_callVi (As := [.int (v3 / (8 : Int32)), .int (v3 - v3 / (8 : Int32) * (8 : Int32)), .int (0 : Int32), .int (0 : Int32)]) (k := 228) hC rfl (tX5_bill (t1 := t1) (t2 := t2) hI n (v3 / (8 : Int32)) (v3 - v3 / (8 : Int32) * (8 : Int32)) (0 : Int32) (0 : Int32) μ) (cwV 4 hC.1.2.2.2.2 gL_seen_X5_bill rfl rfl rfl (by decide +kernel) ⟨Nat.le_of_ble_eq_true rfl, Nat.le_of_ble_eq_true rfl⟩) kx228 rfl rfl rfl (Nat.le_of_ble_eq_true rfl) dL_seen_172 (fun r172 m172 => ?_)
            refine hr_i2l hC dL_seen_175 ?_
            refine hr_ladd hC dL_seen_176 ?_
            refine hr_lstore_n (lv' := [(1, .long (((31 : Int64) * x1) + r172.toInt64)), (4, .int x4), (3, .int v3), (0, .ref (ad 228))]) hC dL_seen_177 rfl (by decide) rfl ?_
            refine hr_iinc (v := (x4 + (1 : Int32))) (lv' := [(4, .int (x4 + (1 : Int32))), (1, .long (((31 : Int64) * x1) + r172.toInt64)), (3, .int v3), (0, .ref (ad 228))]) (kx := 1) hC dL_seen_178 rfl rfl (by decide) rfl ?_
            refine hr_goto (tgt := 128) hC dL_seen_181 (by decide) ?_
            refine hr_sub (lv' := [(4, .int (x4 + (1 : Int32))), (3, .int v3), (1, .long (((31 : Int64) * x1) + r172.toInt64)), (0, .ref (ad 228))]) [0, 2, 1, 3] rfl ?_
            exact ih _ _ _
          · refine hr_iconst (v := 1) hC dL_seen_167 (by decide) ?_
            refine hr_goto (tgt := 172) hC dL_seen_168 (by decide) ?_
            refine hr_callVi (As := [.int (v3 / (8 : Int32)), .int (v3 - v3 / (8 : Int32) * (8 : Int32)), .int (0 : Int32), .int (1 : Int32)]) (k := 228) hC rfl (tX5_bill (t1 := t1) (t2 := t2) hI n (v3 / (8 : Int32)) (v3 - v3 / (8 : Int32) * (8 : Int32)) (0 : Int32) (1 : Int32) μ) (cwV 4 hC.1.2.2.2.2 gL_seen_X5_bill rfl rfl rfl (by decide +kernel) ⟨Nat.le_of_ble_eq_true rfl, Nat.le_of_ble_eq_true rfl⟩) kx228 rfl rfl rfl (Nat.le_of_ble_eq_true rfl) dL_seen_172 (fun r172 m172 => ?_)
            refine hr_i2l hC dL_seen_175 ?_
            refine hr_ladd hC dL_seen_176 ?_
            refine hr_lstore_n (lv' := [(1, .long (((31 : Int64) * x1) + r172.toInt64)), (4, .int x4), (3, .int v3), (0, .ref (ad 228))]) hC dL_seen_177 rfl (by decide) rfl ?_
            refine hr_iinc (v := (x4 + (1 : Int32))) (lv' := [(4, .int (x4 + (1 : Int32))), (1, .long (((31 : Int64) * x1) + r172.toInt64)), (3, .int v3), (0, .ref (ad 228))]) (kx := 1) hC dL_seen_178 rfl rfl (by decide) rfl ?_
            refine hr_goto (tgt := 128) hC dL_seen_181 (by decide) ?_
            refine hr_sub (lv' := [(4, .int (x4 + (1 : Int32))), (3, .int v3), (1, .long (((31 : Int64) * x1) + r172.toInt64)), (0, .ref (ad 228))]) [0, 2, 1, 3] rfl ?_
            exact ih _ _ _
  have L113 : ∀ (k : Int32 → Int64 → hb_m → Option (Int64 × hb_m)) (hk : ∀ (x3 : Int32) (x1 : Int64) (μ : hb_m), hb_V p l e rmL_seen s m args below meth c 5 vwCl kdX 241 ad D dA (hb_Ql vwCl kdX 241 ad D dA) μ 190 [(3, .int x3), (1, .long x1), (0, .ref (ad 228))] [] (k x3 x1 μ)) (f : Nat) (x3 : Int32) (x1 : Int64) (μ : hb_m), hb_V p l e rmL_seen s m args below meth c 5 vwCl kdX 241 ad D dA (hb_Ql vwCl kdX 241 ad D dA) μ 113 [(3, .int x3), (1, .long x1), (0, .ref (ad 228))] [] (lL_seen_113 n k f x3 x1 μ) := by
    intro k hk f
    induction f with
    | zero => intro x3 x1 μ; rw [lL_seen_113]; exact hr_none
    | succ f ih =>
      intro x3 x1 μ
      rw [lL_seen_113]
      refine hr_iload_n hC dL_seen_113 rfl 0 rfl ?_
      refine hr_bipush (v := 8) hC dL_seen_114 (by decide) ?_
      refine hr_aload_n hC dL_seen_116 rfl 2 rfl ?_
      refine hr_iconst (v := 0) hC dL_seen_117 (by decide) ?_
      refine hr_callVi (As := [.int (0 : Int32)]) (k := 228) hC rfl (tX5_count (t1 := t1) (t2 := t2) hI n (0 : Int32) μ) (cwV 1 hC.1.2.2.2.2 gL_seen_X5_count rfl rfl rfl (by decide +kernel) ⟨Nat.le_of_ble_eq_true rfl, Nat.le_of_ble_eq_true rfl⟩) kx228 rfl rfl rfl (Nat.le_of_ble_eq_true rfl) dL_seen_118 (fun r118 m118 => ?_)
      refine hr_imul hC dL_seen_121 ?_
      refine hr_icmp_ge (tgt := 190) hC dL_seen_122 (by decide) (fun _ => ?_) (fun _ => ?_)
      · refine hr_sub (lv' := [(3, .int x3), (1, .long x1), (0, .ref (ad 228))]) [0, 1, 2] rfl ?_
        exact hk _ _ _
      · refine hr_iconst (v := 0) hC dL_seen_125 (by decide) ?_
        refine hr_istore (lv' := [(4, .int (0 : Int32)), (3, .int x3), (1, .long x1), (0, .ref (ad 228))]) hC dL_seen_126 (by decide) rfl ?_
        refine hr_sub (lv' := [(4, .int (0 : Int32)), (3, .int x3), (1, .long x1), (0, .ref (ad 228))]) [0, 1, 2, 3] rfl ?_
        refine L128 _ _ (fun x4_128 x1_128 m128 => ?_) _ _ _ _
        refine hr_iinc (v := (x3 + (1 : Int32))) (lv' := [(3, .int (x3 + (1 : Int32))), (4, .int x4_128), (1, .long x1_128), (0, .ref (ad 228))]) (kx := 1) hC dL_seen_184 rfl rfl (by decide) rfl ?_
        refine hr_goto (tgt := 113) hC dL_seen_187 (by decide) ?_
        refine hr_sub (lv' := [(3, .int (x3 + (1 : Int32))), (1, .long x1_128), (0, .ref (ad 228))]) [0, 2, 3] rfl ?_
        exact ih _ _ _
  have L192 : ∀ (k : Int32 → Int64 → hb_m → Option (Int64 × hb_m)) (hk : ∀ (x3 : Int32) (x1 : Int64) (μ : hb_m), hb_V p l e rmL_seen s m args below meth c 5 vwCl kdX 241 ad D dA (hb_Ql vwCl kdX 241 ad D dA) μ 230 [(3, .int x3), (1, .long x1), (0, .ref (ad 228))] [] (k x3 x1 μ)) (f : Nat) (x3 : Int32) (x1 : Int64) (μ : hb_m), hb_V p l e rmL_seen s m args below meth c 5 vwCl kdX 241 ad D dA (hb_Ql vwCl kdX 241 ad D dA) μ 192 [(3, .int x3), (1, .long x1), (0, .ref (ad 228))] [] (lL_seen_192 n k f x3 x1 μ) := by
    intro k hk f
    induction f with
    | zero => intro x3 x1 μ; rw [lL_seen_192]; exact hr_none
    | succ f ih =>
      intro x3 x1 μ
      rw [lL_seen_192]
      refine hr_iload_n hC dL_seen_192 rfl 0 rfl ?_
      refine hr_bipush (v := 20) hC dL_seen_193 (by decide) ?_
      refine hr_aload_n hC dL_seen_195 rfl 2 rfl ?_
      refine hr_iconst (v := 0) hC dL_seen_196 (by decide) ?_
      refine hr_callVi (As := [.int (0 : Int32)]) (k := 228) hC rfl (tX5_count (t1 := t1) (t2 := t2) hI n (0 : Int32) μ) (cwV 1 hC.1.2.2.2.2 gL_seen_X5_count rfl rfl rfl (by decide +kernel) ⟨Nat.le_of_ble_eq_true rfl, Nat.le_of_ble_eq_true rfl⟩) kx228 rfl rfl rfl (Nat.le_of_ble_eq_true rfl) dL_seen_197 (fun r197 m197 => ?_)
      refine hr_imul hC dL_seen_200 ?_
      refine hr_icmp_ge (tgt := 230) hC dL_seen_201 (by decide) (fun _ => ?_) (fun _ => ?_)
      · refine hr_sub (lv' := [(3, .int x3), (1, .long x1), (0, .ref (ad 228))]) [0, 1, 2] rfl ?_
        exact hk _ _ _
      · refine hr_ldc2 (v := 31) hC dL_seen_204 hmL_seen_11 ?_
        refine hr_lload_n hC dL_seen_207 rfl 1 rfl ?_
        refine hr_lmul hC dL_seen_208 ?_
        refine hr_aload_n hC dL_seen_209 rfl 2 rfl ?_
        refine hr_iload_n hC dL_seen_210 rfl 0 rfl ?_
        refine hr_bipush (v := 20) hC dL_seen_211 (by decide) ?_
        refine hr_idiv hC dL_seen_213 (by decide) ?_
        refine hr_iload_n hC dL_seen_214 rfl 0 rfl ?_
        refine hr_bipush (v := 20) hC dL_seen_215 (by decide) ?_
        refine hr_irem hC dL_seen_217 (by decide) ?_
        refine hr_callVi (As := [.int (x3 / (20 : Int32)), .int (x3 - x3 / (20 : Int32) * (20 : Int32))]) (k := 228) hC rfl (tX5_units (t1 := t1) (t2 := t2) hI n (x3 / (20 : Int32)) (x3 - x3 / (20 : Int32) * (20 : Int32)) m197) (cwV 2 hC.1.2.2.2.2 gL_seen_X5_units rfl rfl rfl (by decide +kernel) ⟨Nat.le_of_ble_eq_true rfl, Nat.le_of_ble_eq_true rfl⟩) kx228 rfl rfl rfl (Nat.le_of_ble_eq_true rfl) dL_seen_218 (fun r218 m218 => ?_)
        refine hr_i2l hC dL_seen_221 ?_
        refine hr_ladd hC dL_seen_222 ?_
        refine hr_lstore_n (lv' := [(1, .long (((31 : Int64) * x1) + r218.toInt64)), (3, .int x3), (0, .ref (ad 228))]) hC dL_seen_223 rfl (by decide) rfl ?_
        refine hr_iinc (v := (x3 + (1 : Int32))) (lv' := [(3, .int (x3 + (1 : Int32))), (1, .long (((31 : Int64) * x1) + r218.toInt64)), (0, .ref (ad 228))]) (kx := 1) hC dL_seen_224 rfl rfl (by decide) rfl ?_
        refine hr_goto (tgt := 192) hC dL_seen_227 (by decide) ?_
        refine hr_sub (lv' := [(3, .int (x3 + (1 : Int32))), (1, .long (((31 : Int64) * x1) + r218.toInt64)), (0, .ref (ad 228))]) [0, 1, 2] rfl ?_
        exact ih _ _ _
  rw [fL_seen]
  refine hr_ldc2 (v := 7) hC dL_seen_0 hmL_seen_9 ?_
  refine hr_lstore_n (lv' := [(1, .long (7 : Int64)), (0, .ref (ad 228))]) hC dL_seen_3 rfl (by decide) rfl ?_
  refine hr_iconst (v := 0) hC dL_seen_4 (by decide) ?_
  refine hr_istore_n (lv' := [(3, .int (0 : Int32)), (1, .long (7 : Int64)), (0, .ref (ad 228))]) hC dL_seen_5 rfl (by decide) rfl ?_
  refine hr_sub (lv' := [(3, .int (0 : Int32)), (1, .long (7 : Int64)), (0, .ref (ad 228))]) [0, 1, 2] rfl ?_
  refine L6 _ (fun x3_6 x1_6 m6 => ?_) _ _ _ _
  refine hr_iconst (v := 0) hC dL_seen_31 (by decide) ?_
  refine hr_istore_n (lv' := [(3, .int (0 : Int32)), (1, .long x1_6), (0, .ref (ad 228))]) hC dL_seen_32 rfl (by decide) rfl ?_
  refine hr_sub (lv' := [(3, .int (0 : Int32)), (1, .long x1_6), (0, .ref (ad 228))]) [0, 1, 2] rfl ?_
  refine L33 _ (fun x3_33 x1_33 m33 => ?_) _ _ _ _
  refine hr_iconst (v := 0) hC dL_seen_71 (by decide) ?_
  refine hr_istore_n (lv' := [(3, .int (0 : Int32)), (1, .long x1_33), (0, .ref (ad 228))]) hC dL_seen_72 rfl (by decide) rfl ?_
  refine hr_sub (lv' := [(3, .int (0 : Int32)), (1, .long x1_33), (0, .ref (ad 228))]) [0, 1, 2] rfl ?_
  refine L73 _ (fun x3_73 x1_73 m73 => ?_) _ _ _ _
  refine hr_iconst (v := 0) hC dL_seen_111 (by decide) ?_
  refine hr_istore_n (lv' := [(3, .int (0 : Int32)), (1, .long x1_73), (0, .ref (ad 228))]) hC dL_seen_112 rfl (by decide) rfl ?_
  refine hr_sub (lv' := [(3, .int (0 : Int32)), (1, .long x1_73), (0, .ref (ad 228))]) [0, 1, 2] rfl ?_
  refine L113 _ (fun x3_113 x1_113 m113 => ?_) _ _ _ _
  refine hr_iconst (v := 0) hC dL_seen_190 (by decide) ?_
  refine hr_istore_n (lv' := [(3, .int (0 : Int32)), (1, .long x1_113), (0, .ref (ad 228))]) hC dL_seen_191 rfl (by decide) rfl ?_
  refine hr_sub (lv' := [(3, .int (0 : Int32)), (1, .long x1_113), (0, .ref (ad 228))]) [0, 1, 2] rfl ?_
  refine L192 _ (fun x3_192 x1_192 m192 => ?_) _ _ _ _
  refine hr_lload_n hC dL_seen_230 rfl 1 rfl ?_
  exact hr_lret hC hr dL_seen_231

def fX6_in (n : Nat) (p0 : Int32) (p1 : Int32) (p2 : Int32) (μ : hb_m) : Option (Int32 × hb_m) :=
if p0 < p1 then
(some ((0 : Int32), μ))
else
(if p2 < p0 then
(some ((0 : Int32), μ))
else
(some ((1 : Int32), μ)))
abbrev rmX6_in : Room := { frames := 0, cells := 0, slots := 0, locals := 0 }
set_option maxRecDepth 100000 in
set_option maxHeartbeats 4000000 in
theorem tX6_in {l : Launch} {D : va_G} {ad : Nat → Nat} {dA : Nat → ClassId} (hI : hb_I 12 ad) (n : Nat) (p0 : Int32) (p1 : Int32) (p2 : Int32) (μ : hb_m) : hb_M (hb_Qi vwCl kdM 12 ad D dA) l yX6_in wsX6_in rmX6_in vwCl kdM 12 ad D dA [] [] [.int p0, .int p1, .int p2] μ (fX6_in n p0 p1 p2 μ) := by
  refine hb_start (cc := cX6_in) (maxL := 3) (ret := (some .boolean)) (by decide) rfl hI (Nat.le_of_ble_eq_true rfl) [(0, .int p0), (1, .int p1), (2, .int p2)] rfl ?_
  intro p e s m args below meth c hC hr
  rw [fX6_in]
  refine hr_iload_n hC dX6_in_0 rfl 0 rfl ?_
  refine hr_iload_n hC dX6_in_1 rfl 1 rfl ?_
  refine hr_icmp_lt (tgt := 14) hC dX6_in_2 (by decide) (fun _ => ?_) (fun _ => ?_)
  · refine hr_iconst (v := 0) hC dX6_in_14 (by decide) ?_
    exact hr_iretz hC hr dX6_in_15 rfl
  · refine hr_iload_n hC dX6_in_5 rfl 0 rfl ?_
    refine hr_iload_n hC dX6_in_6 rfl 2 rfl ?_
    refine hr_icmp_gt (tgt := 14) hC dX6_in_7 (by decide) (fun _ => ?_) (fun _ => ?_)
    · refine hr_iconst (v := 0) hC dX6_in_14 (by decide) ?_
      exact hr_iretz hC hr dX6_in_15 rfl
    · refine hr_iconst (v := 1) hC dX6_in_10 (by decide) ?_
      refine hr_goto (tgt := 15) hC dX6_in_11 (by decide) ?_
      exact hr_iretz hC hr dX6_in_15 rfl
def lX6_lays_3 (n : Nat) (c0 : Nat) (p1 : Int32) (c2 : Nat) (p3 : Int32) (k : Int32 → hb_m → Option (hb_m)) : Nat → Int32 → hb_m → Option (hb_m)
  | 0, _, _ => none
  | f + 1, x4, μ => if (415 : Int32) ≤ x4 then
(k x4 μ)
else
(if ib (p1 + x4) (hm_n c0) then
if ib (p3 + x4) (hm_n c2) then
lX6_lays_3 n c0 p1 c2 p3 k f (x4 + (1 : Int32)) (wr μ c2 (p3 + x4).toNatClampNeg (rd μ c0 (p1 + x4).toNatClampNeg))
else none
else none)
def fX6_lays (n : Nat) (c0 : Nat) (p1 : Int32) (c2 : Nat) (p3 : Int32) (μ : hb_m) : Option (hb_m) :=
lX6_lays_3 n c0 p1 c2 p3 (fun x4_3 m3 =>
some m3) n (0 : Int32) μ
abbrev rmX6_lays : Room := { frames := 0, cells := 0, slots := 0, locals := 0 }
set_option maxRecDepth 100000 in
set_option maxHeartbeats 4000000 in
theorem tX6_lays {l : Launch} {D : va_G} {ad : Nat → Nat} {dA : Nat → ClassId} (hI : hb_I 12 ad) (n : Nat) (c0 : Nat) (h0 : hm_I c0) (p1 : Int32) (c2 : Nat) (h2 : hm_I c2) (p3 : Int32) (μ : hb_m) : hb_M (hb_Qv vwCl kdM 12 ad D dA) l yX6_lays wsX6_lays rmX6_lays vwCl kdM 12 ad D dA [] [] [.ref (ad c0), .int p1, .ref (ad c2), .int p3] μ (fX6_lays n c0 p1 c2 p3 μ) := by
  refine hb_start (cc := cX6_lays) (maxL := 5) (ret := none) (by decide) rfl hI (Nat.le_of_ble_eq_true rfl) [(0, .ref (ad c0)), (1, .int p1), (2, .ref (ad c2)), (3, .int p3)] rfl ?_
  intro p e s m args below meth c hC hr
  have L3 : ∀ (k : Int32 → hb_m → Option (hb_m)) (hk : ∀ (x4 : Int32) (μ : hb_m), hb_V p l e rmX6_lays s m args below meth c 5 vwCl kdM 12 ad D dA (hb_Qv vwCl kdM 12 ad D dA) μ 29 [(4, .int x4), (0, .ref (ad c0)), (1, .int p1), (2, .ref (ad c2)), (3, .int p3)] [] (k x4 μ)) (f : Nat) (x4 : Int32) (μ : hb_m), hb_V p l e rmX6_lays s m args below meth c 5 vwCl kdM 12 ad D dA (hb_Qv vwCl kdM 12 ad D dA) μ 3 [(4, .int x4), (0, .ref (ad c0)), (1, .int p1), (2, .ref (ad c2)), (3, .int p3)] [] (lX6_lays_3 n c0 p1 c2 p3 k f x4 μ) := by
    intro k hk f
    induction f with
    | zero => intro x4 μ; rw [lX6_lays_3]; exact hr_none
    | succ f ih =>
      intro x4 μ
      rw [lX6_lays_3]
      refine hr_iload hC dX6_lays_3 0 rfl ?_
      refine hr_sipush (v := 415) hC dX6_lays_5 (by decide) ?_
      refine hr_icmp_ge (tgt := 29) hC dX6_lays_8 (by decide) (fun _ => ?_) (fun _ => ?_)
      · refine hr_sub (lv' := [(4, .int x4), (0, .ref (ad c0)), (1, .int p1), (2, .ref (ad c2)), (3, .int p3)]) [0, 1, 2, 3, 4] rfl ?_
        exact hk _ _
      · refine hr_aload_n hC dX6_lays_11 rfl 3 rfl ?_
        refine hr_iload_n hC dX6_lays_12 rfl 4 rfl ?_
        refine hr_iload hC dX6_lays_13 0 rfl ?_
        refine hr_iadd hC dX6_lays_15 ?_
        refine hr_aload_n hC dX6_lays_16 rfl 1 rfl ?_
        refine hr_iload_n hC dX6_lays_17 rfl 2 rfl ?_
        refine hr_iload hC dX6_lays_18 0 rfl ?_
        refine hr_iadd hC dX6_lays_20 ?_
        refine hr_iald hC h0 dX6_lays_21 ?_
        refine hr_iast hC h2 dX6_lays_22 ?_
        refine hr_iinc (v := (x4 + (1 : Int32))) (lv' := [(4, .int (x4 + (1 : Int32))), (0, .ref (ad c0)), (1, .int p1), (2, .ref (ad c2)), (3, .int p3)]) (kx := 0) hC dX6_lays_23 rfl rfl (by decide) rfl ?_
        refine hr_goto (tgt := 3) hC dX6_lays_26 (by decide) ?_
        refine hr_sub (lv' := [(4, .int (x4 + (1 : Int32))), (0, .ref (ad c0)), (1, .int p1), (2, .ref (ad c2)), (3, .int p3)]) [0, 1, 2, 3, 4] rfl ?_
        exact ih _ _
  rw [fX6_lays]
  refine hr_iconst (v := 0) hC dX6_lays_0 (by decide) ?_
  refine hr_istore (lv' := [(4, .int (0 : Int32)), (0, .ref (ad c0)), (1, .int p1), (2, .ref (ad c2)), (3, .int p3)]) hC dX6_lays_1 (by decide) rfl ?_
  refine hr_sub (lv' := [(4, .int (0 : Int32)), (0, .ref (ad c0)), (1, .int p1), (2, .ref (ad c2)), (3, .int p3)]) [0, 1, 2, 3, 4] rfl ?_
  refine L3 _ (fun x4_3 m3 => ?_) _ _ _
  exact hr_vret hC hr dX6_lays_29
theorem hmX6_records_45 : Cond.fieldLink RX6 45 "HeatBillsModel" "saved" "I" ∈ wsX6_records := List.mem_of_getElem? (i := 1) rfl
theorem hmX6_records_13 : Cond.fieldLink RX6 13 "HeatBillsModel" "past" "[I" ∈ wsX6_records := List.mem_of_getElem? (i := 2) rfl
theorem hmX6_records_7 : Cond.fieldLink RX6 7 "HeatBillsModel" "s" "[I" ∈ wsX6_records := List.mem_of_getElem? (i := 3) rfl
theorem hiX6_records_X6 : ∀ w ∈ wsX60, w ∈ wsX6_records := fun _ h => List.mem_cons_of_mem _ (List.mem_append_right _ h)
def lX6_records_10 (n : Nat) (k : Int32 → hb_m → Option (hb_m)) : Nat → Int32 → hb_m → Option (hb_m)
  | 0, _, _ => none
  | f + 1, x1, μ => if (1245 : Int32) ≤ x1 then
(k x1 μ)
else
(if ib (x1 + (415 : Int32)) 1660 then
if ib x1 1660 then
lX6_records_10 n k f (x1 + (1 : Int32)) (wr μ 2 x1.toNatClampNeg (rd μ 2 (x1 + (415 : Int32)).toNatClampNeg))
else none
else none)
def fX6_records (n : Nat) (μ : hb_m) : Option (hb_m) :=
if (rd μ 0 2) = (4 : Int32) then
(lX6_records_10 n (fun x1_10 m10 =>
bv (fX6_lays n 1 (0 : Int32) 2 ((415 : Int32) * (rd (wr m10 0 2 ((rd m10 0 2) - (1 : Int32))) 0 2)) (wr m10 0 2 ((rd m10 0 2) - (1 : Int32)))) (fun m66 =>
some (wr m66 0 2 ((rd m66 0 2) + (1 : Int32))))) n (0 : Int32) μ)
else
(bv (fX6_lays n 1 (0 : Int32) 2 ((415 : Int32) * (rd μ 0 2)) μ) (fun m66 =>
some (wr m66 0 2 ((rd m66 0 2) + (1 : Int32)))))
abbrev rmX6_records : Room := { frames := 1, cells := 0, slots := 0, locals := 24 }
set_option maxRecDepth 100000 in
set_option maxHeartbeats 4000000 in
theorem tX6_records {l : Launch} {D : va_G} {ad : Nat → Nat} {dA : Nat → ClassId} (hI : hb_I 12 ad) (n : Nat) (μ : hb_m) : hb_M (hb_Qv vwCl kdM 12 ad D dA) l yX6_records wsX6_records rmX6_records vwCl kdM 12 ad D dA [] [] [.ref (ad 0)] μ (fX6_records n μ) := by
  refine hb_start (cc := cX6_records) (maxL := 2) (ret := none) (by decide) rfl hI (Nat.le_of_ble_eq_true rfl) [(0, .ref (ad 0))] rfl ?_
  intro p e s m args below meth c hC hr
  have L10 : ∀ (k : Int32 → hb_m → Option (hb_m)) (hk : ∀ (x1 : Int32) (μ : hb_m), hb_V p l e rmX6_records s m args below meth c 2 vwCl kdM 12 ad D dA (hb_Qv vwCl kdM 12 ad D dA) μ 39 [(1, .int x1), (0, .ref (ad 0))] [] (k x1 μ)) (f : Nat) (x1 : Int32) (μ : hb_m), hb_V p l e rmX6_records s m args below meth c 2 vwCl kdM 12 ad D dA (hb_Qv vwCl kdM 12 ad D dA) μ 10 [(1, .int x1), (0, .ref (ad 0))] [] (lX6_records_10 n k f x1 μ) := by
    intro k hk f
    induction f with
    | zero => intro x1 μ; rw [lX6_records_10]; exact hr_none
    | succ f ih =>
      intro x1 μ
      rw [lX6_records_10]
      refine hr_iload_n hC dX6_records_10 rfl 0 rfl ?_
      refine hr_sipush (v := 1245) hC dX6_records_11 (by decide) ?_
      refine hr_icmp_ge (tgt := 39) hC dX6_records_14 (by decide) (fun _ => ?_) (fun _ => ?_)
      · refine hr_sub (lv' := [(1, .int x1), (0, .ref (ad 0))]) [0, 1] rfl ?_
        exact hk _ _
      · refine hr_aload_n hC dX6_records_17 rfl 1 rfl ?_
        refine hr_getR hC hiX6_records_X6 rfl km0 1 (by decide) hmX6_records_13 rfl dX6_records_18 ?_
        refine hr_iload_n hC dX6_records_21 rfl 0 rfl ?_
        refine hr_aload_n hC dX6_records_22 rfl 1 rfl ?_
        refine hr_getR hC hiX6_records_X6 rfl km0 1 (by decide) hmX6_records_13 rfl dX6_records_23 ?_
        refine hr_iload_n hC dX6_records_26 rfl 0 rfl ?_
        refine hr_sipush (v := 415) hC dX6_records_27 (by decide) ?_
        refine hr_iadd hC dX6_records_30 ?_
        refine hr_iald hC km2 dX6_records_31 ?_
        refine hr_iast hC km2 dX6_records_32 ?_
        refine hr_iinc (v := (x1 + (1 : Int32))) (lv' := [(1, .int (x1 + (1 : Int32))), (0, .ref (ad 0))]) (kx := 0) hC dX6_records_33 rfl rfl (by decide) rfl ?_
        refine hr_goto (tgt := 10) hC dX6_records_36 (by decide) ?_
        refine hr_sub (lv' := [(1, .int (x1 + (1 : Int32))), (0, .ref (ad 0))]) [0, 1] rfl ?_
        exact ih _ _
  rw [fX6_records]
  refine hr_aload_n hC dX6_records_0 rfl 0 rfl ?_
  refine hr_getI hC hiX6_records_X6 rfl km0 2 (by decide) hmX6_records_45 rfl dX6_records_1 ?_
  refine hr_iconst (v := 4) hC dX6_records_4 (by decide) ?_
  refine hr_icmp_ne (tgt := 49) hC dX6_records_5 (by decide) (fun _ => ?_) (fun _ => ?_)
  · refine hr_iconst (v := 0) hC dX6_records_8 (by decide) ?_
    refine hr_istore_n (lv' := [(1, .int (0 : Int32)), (0, .ref (ad 0))]) hC dX6_records_9 rfl (by decide) rfl ?_
    refine hr_sub (lv' := [(1, .int (0 : Int32)), (0, .ref (ad 0))]) [0, 1] rfl ?_
    refine L10 _ (fun x1_10 m10 => ?_) _ _ _
    refine hr_aload_n hC dX6_records_39 rfl 1 rfl ?_
    refine hr_dup hC dX6_records_40 rfl ?_
    refine hr_getI hC hiX6_records_X6 rfl km0 2 (by decide) hmX6_records_45 rfl dX6_records_41 ?_
    refine hr_iconst (v := 1) hC dX6_records_44 (by decide) ?_
    refine hr_isub hC dX6_records_45 ?_
    refine hr_putI hC hiX6_records_X6 rfl km0 2 (by decide) hmX6_records_45 tyX6_ok nmX6 rfl rfl rfl rfl dX6_records_46 ?_
    refine hr_aload_n hC dX6_records_49 rfl 1 rfl ?_
    refine hr_getR hC hiX6_records_X6 rfl km0 0 (by decide) hmX6_records_7 rfl dX6_records_50 ?_
    refine hr_iconst (v := 0) hC dX6_records_53 (by decide) ?_
    refine hr_aload_n hC dX6_records_54 rfl 1 rfl ?_
    refine hr_getR hC hiX6_records_X6 rfl km0 1 (by decide) hmX6_records_13 rfl dX6_records_55 ?_
    refine hr_sipush (v := 415) hC dX6_records_58 (by decide) ?_
    refine hr_aload_n hC dX6_records_61 rfl 1 rfl ?_
    refine hr_getI hC hiX6_records_X6 rfl km0 2 (by decide) hmX6_records_45 rfl dX6_records_62 ?_
    refine hr_imul hC dX6_records_65 ?_
    refine hr_callSv (As := [.ref (ad 1), .int (0 : Int32), .ref (ad 2), .int ((415 : Int32) * (rd (wr m10 0 2 ((rd m10 0 2) - (1 : Int32))) 0 2))]) hC rfl (tX6_lays hI n 1 (hm_Io km1) (0 : Int32) 2 (hm_Io km2) ((415 : Int32) * (rd (wr m10 0 2 ((rd m10 0 2) - (1 : Int32))) 0 2)) (wr m10 0 2 ((rd m10 0 2) - (1 : Int32)))) (va_cwS 4 hC.1.2.2.2.2 gX6_records_X6_lays rfl rfl rfl (by decide +kernel) ⟨Nat.le_of_ble_eq_true rfl, Nat.le_of_ble_eq_true rfl⟩) rfl (Nat.le_of_ble_eq_true rfl) dX6_records_66 (fun m66 => ?_)
    refine hr_aload_n hC dX6_records_69 rfl 1 rfl ?_
    refine hr_dup hC dX6_records_70 rfl ?_
    refine hr_getI hC hiX6_records_X6 rfl km0 2 (by decide) hmX6_records_45 rfl dX6_records_71 ?_
    refine hr_iconst (v := 1) hC dX6_records_74 (by decide) ?_
    refine hr_iadd hC dX6_records_75 ?_
    refine hr_putI hC hiX6_records_X6 rfl km0 2 (by decide) hmX6_records_45 tyX6_ok nmX6 rfl rfl rfl rfl dX6_records_76 ?_
    exact hr_vret hC hr dX6_records_79
  · refine hr_aload_n hC dX6_records_49 rfl 0 rfl ?_
    refine hr_getR hC hiX6_records_X6 rfl km0 0 (by decide) hmX6_records_7 rfl dX6_records_50 ?_
    refine hr_iconst (v := 0) hC dX6_records_53 (by decide) ?_
    refine hr_aload_n hC dX6_records_54 rfl 0 rfl ?_
    refine hr_getR hC hiX6_records_X6 rfl km0 1 (by decide) hmX6_records_13 rfl dX6_records_55 ?_
    refine hr_sipush (v := 415) hC dX6_records_58 (by decide) ?_
    refine hr_aload_n hC dX6_records_61 rfl 0 rfl ?_
    refine hr_getI hC hiX6_records_X6 rfl km0 2 (by decide) hmX6_records_45 rfl dX6_records_62 ?_
    refine hr_imul hC dX6_records_65 ?_
    refine hr_callSv (As := [.ref (ad 1), .int (0 : Int32), .ref (ad 2), .int ((415 : Int32) * (rd μ 0 2))]) hC rfl (tX6_lays hI n 1 (hm_Io km1) (0 : Int32) 2 (hm_Io km2) ((415 : Int32) * (rd μ 0 2)) μ) (va_cwS 4 hC.1.2.2.2.2 gX6_records_X6_lays rfl rfl rfl (by decide +kernel) ⟨Nat.le_of_ble_eq_true rfl, Nat.le_of_ble_eq_true rfl⟩) rfl (Nat.le_of_ble_eq_true rfl) dX6_records_66 (fun m66 => ?_)
    refine hr_aload_n hC dX6_records_69 rfl 0 rfl ?_
    refine hr_dup hC dX6_records_70 rfl ?_
    refine hr_getI hC hiX6_records_X6 rfl km0 2 (by decide) hmX6_records_45 rfl dX6_records_71 ?_
    refine hr_iconst (v := 1) hC dX6_records_74 (by decide) ?_
    refine hr_iadd hC dX6_records_75 ?_
    refine hr_putI hC hiX6_records_X6 rfl km0 2 (by decide) hmX6_records_45 tyX6_ok nmX6 rfl rfl rfl rfl dX6_records_76 ?_
    exact hr_vret hC hr dX6_records_79
theorem hmX6_undo_45 : Cond.fieldLink RX6 45 "HeatBillsModel" "saved" "I" ∈ wsX6_undo := List.mem_of_getElem? (i := 1) rfl
theorem hmX6_undo_13 : Cond.fieldLink RX6 13 "HeatBillsModel" "past" "[I" ∈ wsX6_undo := List.mem_of_getElem? (i := 2) rfl
theorem hmX6_undo_7 : Cond.fieldLink RX6 7 "HeatBillsModel" "s" "[I" ∈ wsX6_undo := List.mem_of_getElem? (i := 3) rfl
theorem hiX6_undo_X6 : ∀ w ∈ wsX60, w ∈ wsX6_undo := fun _ h => List.mem_cons_of_mem _ (List.mem_append_right _ h)
def fX6_undo (n : Nat) (μ : hb_m) : Option (Int32 × hb_m) :=
if (rd μ 0 2) = 0 then
(some ((-5 : Int32), μ))
else
(bv (fX6_lays n 2 ((415 : Int32) * (rd (wr μ 0 2 ((rd μ 0 2) - (1 : Int32))) 0 2)) 1 (0 : Int32) (wr μ 0 2 ((rd μ 0 2) - (1 : Int32)))) (fun m37 =>
some ((rd m37 0 2), m37)))
abbrev rmX6_undo : Room := { frames := 1, cells := 0, slots := 0, locals := 24 }
set_option maxRecDepth 100000 in
set_option maxHeartbeats 4000000 in
theorem tX6_undo {l : Launch} {D : va_G} {ad : Nat → Nat} {dA : Nat → ClassId} (hI : hb_I 12 ad) (n : Nat) (μ : hb_m) : hb_M (hb_Qi vwCl kdM 12 ad D dA) l yX6_undo wsX6_undo rmX6_undo vwCl kdM 12 ad D dA [] [] [.ref (ad 0)] μ (fX6_undo n μ) := by
  refine hb_start (cc := cX6_undo) (maxL := 1) (ret := (some .int)) (by decide) rfl hI (Nat.le_of_ble_eq_true rfl) [(0, .ref (ad 0))] rfl ?_
  intro p e s m args below meth c hC hr
  rw [fX6_undo]
  refine hr_aload_n hC dX6_undo_0 rfl 0 rfl ?_
  refine hr_getI hC hiX6_undo_X6 rfl km0 2 (by decide) hmX6_undo_45 rfl dX6_undo_1 ?_
  refine hr_if_ne (tgt := 10) hC dX6_undo_4 (by decide) (fun _ => ?_) (fun _ => ?_)
  · refine hr_bipush (v := -5) hC dX6_undo_7 (by decide) ?_
    exact hr_ireti hC hr dX6_undo_9
  · refine hr_aload_n hC dX6_undo_10 rfl 0 rfl ?_
    refine hr_dup hC dX6_undo_11 rfl ?_
    refine hr_getI hC hiX6_undo_X6 rfl km0 2 (by decide) hmX6_undo_45 rfl dX6_undo_12 ?_
    refine hr_iconst (v := 1) hC dX6_undo_15 (by decide) ?_
    refine hr_isub hC dX6_undo_16 ?_
    refine hr_putI hC hiX6_undo_X6 rfl km0 2 (by decide) hmX6_undo_45 tyX6_ok nmX6 rfl rfl rfl rfl dX6_undo_17 ?_
    refine hr_aload_n hC dX6_undo_20 rfl 0 rfl ?_
    refine hr_getR hC hiX6_undo_X6 rfl km0 1 (by decide) hmX6_undo_13 rfl dX6_undo_21 ?_
    refine hr_sipush (v := 415) hC dX6_undo_24 (by decide) ?_
    refine hr_aload_n hC dX6_undo_27 rfl 0 rfl ?_
    refine hr_getI hC hiX6_undo_X6 rfl km0 2 (by decide) hmX6_undo_45 rfl dX6_undo_28 ?_
    refine hr_imul hC dX6_undo_31 ?_
    refine hr_aload_n hC dX6_undo_32 rfl 0 rfl ?_
    refine hr_getR hC hiX6_undo_X6 rfl km0 0 (by decide) hmX6_undo_7 rfl dX6_undo_33 ?_
    refine hr_iconst (v := 0) hC dX6_undo_36 (by decide) ?_
    refine hr_callSv (As := [.ref (ad 2), .int ((415 : Int32) * (rd (wr μ 0 2 ((rd μ 0 2) - (1 : Int32))) 0 2)), .ref (ad 1), .int (0 : Int32)]) hC rfl (tX6_lays hI n 2 (hm_Io km2) ((415 : Int32) * (rd (wr μ 0 2 ((rd μ 0 2) - (1 : Int32))) 0 2)) 1 (hm_Io km1) (0 : Int32) (wr μ 0 2 ((rd μ 0 2) - (1 : Int32)))) (va_cwS 4 hC.1.2.2.2.2 gX6_undo_X6_lays rfl rfl rfl (by decide +kernel) ⟨Nat.le_of_ble_eq_true rfl, Nat.le_of_ble_eq_true rfl⟩) rfl (Nat.le_of_ble_eq_true rfl) dX6_undo_37 (fun m37 => ?_)
    refine hr_aload_n hC dX6_undo_40 rfl 0 rfl ?_
    refine hr_getI hC hiX6_undo_X6 rfl km0 2 (by decide) hmX6_undo_45 rfl dX6_undo_41 ?_
    exact hr_ireti hC hr dX6_undo_44
theorem hmX6_keep_7 : Cond.fieldLink RX6 7 "HeatBillsModel" "s" "[I" ∈ wsX6_keep := List.mem_of_getElem? (i := 1) rfl
theorem hmX6_keep_16 : Cond.fieldLink RX6 16 "HeatBillsModel" "shot" "[I" ∈ wsX6_keep := List.mem_of_getElem? (i := 2) rfl
theorem hmX6_keep_53 : Cond.fieldLink RX6 53 "HeatBillsModel" "isShot" "Z" ∈ wsX6_keep := List.mem_of_getElem? (i := 3) rfl
theorem hiX6_keep_X6 : ∀ w ∈ wsX60, w ∈ wsX6_keep := fun _ h => List.mem_cons_of_mem _ (List.mem_append_right _ h)
def fX6_keep (n : Nat) (μ : hb_m) : Option (Int32 × hb_m) :=
bv (fX6_lays n 1 (0 : Int32) 3 (0 : Int32) μ) (fun m10 =>
if ib (2 : Int32) 415 then
some ((rd (wr m10 0 4 (1 : Int32)) 1 (2 : Int32).toNatClampNeg), (wr m10 0 4 (1 : Int32)))
else none)
abbrev rmX6_keep : Room := { frames := 1, cells := 0, slots := 0, locals := 24 }
set_option maxRecDepth 100000 in
set_option maxHeartbeats 4000000 in
theorem tX6_keep {l : Launch} {D : va_G} {ad : Nat → Nat} {dA : Nat → ClassId} (hI : hb_I 12 ad) (n : Nat) (μ : hb_m) : hb_M (hb_Qi vwCl kdM 12 ad D dA) l yX6_keep wsX6_keep rmX6_keep vwCl kdM 12 ad D dA [] [] [.ref (ad 0)] μ (fX6_keep n μ) := by
  refine hb_start (cc := cX6_keep) (maxL := 1) (ret := (some .int)) (by decide) rfl hI (Nat.le_of_ble_eq_true rfl) [(0, .ref (ad 0))] rfl ?_
  intro p e s m args below meth c hC hr
  rw [fX6_keep]
  refine hr_aload_n hC dX6_keep_0 rfl 0 rfl ?_
  refine hr_getR hC hiX6_keep_X6 rfl km0 0 (by decide) hmX6_keep_7 rfl dX6_keep_1 ?_
  refine hr_iconst (v := 0) hC dX6_keep_4 (by decide) ?_
  refine hr_aload_n hC dX6_keep_5 rfl 0 rfl ?_
  refine hr_getR hC hiX6_keep_X6 rfl km0 3 (by decide) hmX6_keep_16 rfl dX6_keep_6 ?_
  refine hr_iconst (v := 0) hC dX6_keep_9 (by decide) ?_
  refine hr_callSv (As := [.ref (ad 1), .int (0 : Int32), .ref (ad 3), .int (0 : Int32)]) hC rfl (tX6_lays hI n 1 (hm_Io km1) (0 : Int32) 3 (hm_Io km3) (0 : Int32) μ) (va_cwS 4 hC.1.2.2.2.2 gX6_keep_X6_lays rfl rfl rfl (by decide +kernel) ⟨Nat.le_of_ble_eq_true rfl, Nat.le_of_ble_eq_true rfl⟩) rfl (Nat.le_of_ble_eq_true rfl) dX6_keep_10 (fun m10 => ?_)
  refine hr_aload_n hC dX6_keep_13 rfl 0 rfl ?_
  refine hr_iconst (v := 1) hC dX6_keep_14 (by decide) ?_
  refine hr_putI hC hiX6_keep_X6 rfl km0 4 (by decide) hmX6_keep_53 tyX6_ok nmX6 rfl rfl rfl rfl dX6_keep_15 ?_
  refine hr_aload_n hC dX6_keep_18 rfl 0 rfl ?_
  refine hr_getR hC hiX6_keep_X6 rfl km0 0 (by decide) hmX6_keep_7 rfl dX6_keep_19 ?_
  refine hr_iconst (v := 2) hC dX6_keep_22 (by decide) ?_
  refine hr_iald hC km1 dX6_keep_23 ?_
  exact hr_ireti hC hr dX6_keep_24
theorem hmX6_restore_53 : Cond.fieldLink RX6 53 "HeatBillsModel" "isShot" "Z" ∈ wsX6_restore := List.mem_of_getElem? (i := 1) rfl
theorem hmX6_restore_16 : Cond.fieldLink RX6 16 "HeatBillsModel" "shot" "[I" ∈ wsX6_restore := List.mem_of_getElem? (i := 2) rfl
theorem hmX6_restore_7 : Cond.fieldLink RX6 7 "HeatBillsModel" "s" "[I" ∈ wsX6_restore := List.mem_of_getElem? (i := 3) rfl
theorem hiX6_restore_X6 : ∀ w ∈ wsX60, w ∈ wsX6_restore := fun _ h => List.mem_cons_of_mem _ (List.mem_append_right _ h)
def fX6_restore (n : Nat) (μ : hb_m) : Option (Int32 × hb_m) :=
if (rd μ 0 4) = 0 then
(some ((-5 : Int32), μ))
else
(bv (fX6_records n μ) (fun m11 =>
bv (fX6_lays n 3 (0 : Int32) 1 (0 : Int32) m11) (fun m24 =>
if ib (2 : Int32) 415 then
some ((rd m24 1 (2 : Int32).toNatClampNeg), m24)
else none)))
abbrev rmX6_restore : Room := { frames := 2, cells := 0, slots := 0, locals := 45 }
set_option maxRecDepth 100000 in
set_option maxHeartbeats 4000000 in
theorem tX6_restore {l : Launch} {D : va_G} {ad : Nat → Nat} {dA : Nat → ClassId} (hI : hb_I 12 ad) (n : Nat) (μ : hb_m) : hb_M (hb_Qi vwCl kdM 12 ad D dA) l yX6_restore wsX6_restore rmX6_restore vwCl kdM 12 ad D dA [] [] [.ref (ad 0)] μ (fX6_restore n μ) := by
  refine hb_start (cc := cX6_restore) (maxL := 1) (ret := (some .int)) (by decide) rfl hI (Nat.le_of_ble_eq_true rfl) [(0, .ref (ad 0))] rfl ?_
  intro p e s m args below meth c hC hr
  rw [fX6_restore]
  refine hr_aload_n hC dX6_restore_0 rfl 0 rfl ?_
  refine hr_getI hC hiX6_restore_X6 rfl km0 4 (by decide) hmX6_restore_53 rfl dX6_restore_1 ?_
  refine hr_if_ne (tgt := 10) hC dX6_restore_4 (by decide) (fun _ => ?_) (fun _ => ?_)
  · refine hr_bipush (v := -5) hC dX6_restore_7 (by decide) ?_
    exact hr_ireti hC hr dX6_restore_9
  · refine hr_aload_n hC dX6_restore_10 rfl 0 rfl ?_
    refine hr_callVv (As := []) (k := 0) hC rfl (tX6_records hI n μ) (cwV 0 hC.1.2.2.2.2 gX6_restore_X6_records rfl rfl rfl (by decide +kernel) ⟨Nat.le_of_ble_eq_true rfl, Nat.le_of_ble_eq_true rfl⟩) km0 rfl rfl rfl (Nat.le_of_ble_eq_true rfl) dX6_restore_11 (fun m11 => ?_)
    refine hr_aload_n hC dX6_restore_14 rfl 0 rfl ?_
    refine hr_getR hC hiX6_restore_X6 rfl km0 3 (by decide) hmX6_restore_16 rfl dX6_restore_15 ?_
    refine hr_iconst (v := 0) hC dX6_restore_18 (by decide) ?_
    refine hr_aload_n hC dX6_restore_19 rfl 0 rfl ?_
    refine hr_getR hC hiX6_restore_X6 rfl km0 0 (by decide) hmX6_restore_7 rfl dX6_restore_20 ?_
    refine hr_iconst (v := 0) hC dX6_restore_23 (by decide) ?_
    refine hr_callSv (As := [.ref (ad 3), .int (0 : Int32), .ref (ad 1), .int (0 : Int32)]) hC rfl (tX6_lays hI n 3 (hm_Io km3) (0 : Int32) 1 (hm_Io km1) (0 : Int32) m11) (va_cwS 4 hC.1.2.2.2.2 gX6_restore_X6_lays rfl rfl rfl (by decide +kernel) ⟨Nat.le_of_ble_eq_true rfl, Nat.le_of_ble_eq_true rfl⟩) rfl (Nat.le_of_ble_eq_true rfl) dX6_restore_24 (fun m24 => ?_)
    refine hr_aload_n hC dX6_restore_27 rfl 0 rfl ?_
    refine hr_getR hC hiX6_restore_X6 rfl km0 0 (by decide) hmX6_restore_7 rfl dX6_restore_28 ?_
    refine hr_iconst (v := 2) hC dX6_restore_31 (by decide) ?_
    refine hr_iald hC km1 dX6_restore_32 ?_
    exact hr_ireti hC hr dX6_restore_33
theorem hmX6_isFlat_7 : Cond.fieldLink RX6 7 "HeatBillsModel" "s" "[I" ∈ wsX6_isFlat := List.mem_of_getElem? (i := 1) rfl
theorem hiX6_isFlat_X6 : ∀ w ∈ wsX60, w ∈ wsX6_isFlat := fun _ h => List.mem_cons_of_mem _ (List.mem_append_right _ h)
def fX6_isFlat (n : Nat) (p1 : Int32) (μ : hb_m) : Option (Int32 × hb_m) :=
if ib (0 : Int32) 415 then
bi (fX6_in n p1 (0 : Int32) ((rd μ 1 (0 : Int32).toNatClampNeg) - (1 : Int32)) μ) (fun r10 m10 =>
if vp_nar .boolean r10 = r10 then some (r10, m10) else none)
else none
abbrev rmX6_isFlat : Room := { frames := 1, cells := 0, slots := 0, locals := 22 }
set_option maxRecDepth 100000 in
set_option maxHeartbeats 4000000 in
theorem tX6_isFlat {l : Launch} {D : va_G} {ad : Nat → Nat} {dA : Nat → ClassId} (hI : hb_I 12 ad) (n : Nat) (p1 : Int32) (μ : hb_m) : hb_M (hb_Qi vwCl kdM 12 ad D dA) l yX6_isFlat wsX6_isFlat rmX6_isFlat vwCl kdM 12 ad D dA [] [] [.ref (ad 0), .int p1] μ (fX6_isFlat n p1 μ) := by
  refine hb_start (cc := cX6_isFlat) (maxL := 2) (ret := (some .boolean)) (by decide) rfl hI (Nat.le_of_ble_eq_true rfl) [(0, .ref (ad 0)), (1, .int p1)] rfl ?_
  intro p e s m args below meth c hC hr
  rw [fX6_isFlat]
  refine hr_iload_n hC dX6_isFlat_0 rfl 1 rfl ?_
  refine hr_iconst (v := 0) hC dX6_isFlat_1 (by decide) ?_
  refine hr_aload_n hC dX6_isFlat_2 rfl 0 rfl ?_
  refine hr_getR hC hiX6_isFlat_X6 rfl km0 0 (by decide) hmX6_isFlat_7 rfl dX6_isFlat_3 ?_
  refine hr_iconst (v := 0) hC dX6_isFlat_6 (by decide) ?_
  refine hr_iald hC km1 dX6_isFlat_7 ?_
  refine hr_iconst (v := 1) hC dX6_isFlat_8 (by decide) ?_
  refine hr_isub hC dX6_isFlat_9 ?_
  refine hr_callSi (As := [.int p1, .int (0 : Int32), .int ((rd μ 1 (0 : Int32).toNatClampNeg) - (1 : Int32))]) hC rfl (tX6_in hI n p1 (0 : Int32) ((rd μ 1 (0 : Int32).toNatClampNeg) - (1 : Int32)) μ) (va_cwS 3 hC.1.2.2.2.2 gX6_isFlat_X6_in rfl rfl rfl (by decide +kernel) ⟨Nat.le_of_ble_eq_true rfl, Nat.le_of_ble_eq_true rfl⟩) rfl (Nat.le_of_ble_eq_true rfl) dX6_isFlat_10 (fun r10 m10 => ?_)
  exact hr_iretzC hC hr dX6_isFlat_13
theorem hmX6_isDevice_7 : Cond.fieldLink RX6 7 "HeatBillsModel" "s" "[I" ∈ wsX6_isDevice := List.mem_of_getElem? (i := 1) rfl
theorem hiX6_isDevice_X6 : ∀ w ∈ wsX60, w ∈ wsX6_isDevice := fun _ h => List.mem_cons_of_mem _ (List.mem_append_right _ h)
def fX6_isDevice (n : Nat) (p1 : Int32) (μ : hb_m) : Option (Int32 × hb_m) :=
if ib (1 : Int32) 415 then
bi (fX6_in n p1 (0 : Int32) ((rd μ 1 (1 : Int32).toNatClampNeg) - (1 : Int32)) μ) (fun r10 m10 =>
if vp_nar .boolean r10 = r10 then some (r10, m10) else none)
else none
abbrev rmX6_isDevice : Room := { frames := 1, cells := 0, slots := 0, locals := 22 }
set_option maxRecDepth 100000 in
set_option maxHeartbeats 4000000 in
theorem tX6_isDevice {l : Launch} {D : va_G} {ad : Nat → Nat} {dA : Nat → ClassId} (hI : hb_I 12 ad) (n : Nat) (p1 : Int32) (μ : hb_m) : hb_M (hb_Qi vwCl kdM 12 ad D dA) l yX6_isDevice wsX6_isDevice rmX6_isDevice vwCl kdM 12 ad D dA [] [] [.ref (ad 0), .int p1] μ (fX6_isDevice n p1 μ) := by
  refine hb_start (cc := cX6_isDevice) (maxL := 2) (ret := (some .boolean)) (by decide) rfl hI (Nat.le_of_ble_eq_true rfl) [(0, .ref (ad 0)), (1, .int p1)] rfl ?_
  intro p e s m args below meth c hC hr
  rw [fX6_isDevice]
  refine hr_iload_n hC dX6_isDevice_0 rfl 1 rfl ?_
  refine hr_iconst (v := 0) hC dX6_isDevice_1 (by decide) ?_
  refine hr_aload_n hC dX6_isDevice_2 rfl 0 rfl ?_
  refine hr_getR hC hiX6_isDevice_X6 rfl km0 0 (by decide) hmX6_isDevice_7 rfl dX6_isDevice_3 ?_
  refine hr_iconst (v := 1) hC dX6_isDevice_6 (by decide) ?_
  refine hr_iald hC km1 dX6_isDevice_7 ?_
  refine hr_iconst (v := 1) hC dX6_isDevice_8 (by decide) ?_
  refine hr_isub hC dX6_isDevice_9 ?_
  refine hr_callSi (As := [.int p1, .int (0 : Int32), .int ((rd μ 1 (1 : Int32).toNatClampNeg) - (1 : Int32))]) hC rfl (tX6_in hI n p1 (0 : Int32) ((rd μ 1 (1 : Int32).toNatClampNeg) - (1 : Int32)) μ) (va_cwS 3 hC.1.2.2.2.2 gX6_isDevice_X6_in rfl rfl rfl (by decide +kernel) ⟨Nat.le_of_ble_eq_true rfl, Nat.le_of_ble_eq_true rfl⟩) rfl (Nat.le_of_ble_eq_true rfl) dX6_isDevice_10 (fun r10 m10 => ?_)
  exact hr_iretzC hC hr dX6_isDevice_13
theorem hmX6_isClosed_7 : Cond.fieldLink RX6 7 "HeatBillsModel" "s" "[I" ∈ wsX6_isClosed := List.mem_of_getElem? (i := 1) rfl
theorem hiX6_isClosed_X6 : ∀ w ∈ wsX60, w ∈ wsX6_isClosed := fun _ h => List.mem_cons_of_mem _ (List.mem_append_right _ h)
def fX6_isClosed (n : Nat) (p1 : Int32) (μ : hb_m) : Option (Int32 × hb_m) :=
if ib (2 : Int32) 415 then
bi (fX6_in n p1 (0 : Int32) ((rd μ 1 (2 : Int32).toNatClampNeg) - (1 : Int32)) μ) (fun r10 m10 =>
if vp_nar .boolean r10 = r10 then some (r10, m10) else none)
else none
abbrev rmX6_isClosed : Room := { frames := 1, cells := 0, slots := 0, locals := 22 }
set_option maxRecDepth 100000 in
set_option maxHeartbeats 4000000 in
theorem tX6_isClosed {l : Launch} {D : va_G} {ad : Nat → Nat} {dA : Nat → ClassId} (hI : hb_I 12 ad) (n : Nat) (p1 : Int32) (μ : hb_m) : hb_M (hb_Qi vwCl kdM 12 ad D dA) l yX6_isClosed wsX6_isClosed rmX6_isClosed vwCl kdM 12 ad D dA [] [] [.ref (ad 0), .int p1] μ (fX6_isClosed n p1 μ) := by
  refine hb_start (cc := cX6_isClosed) (maxL := 2) (ret := (some .boolean)) (by decide) rfl hI (Nat.le_of_ble_eq_true rfl) [(0, .ref (ad 0)), (1, .int p1)] rfl ?_
  intro p e s m args below meth c hC hr
  rw [fX6_isClosed]
  refine hr_iload_n hC dX6_isClosed_0 rfl 1 rfl ?_
  refine hr_iconst (v := 0) hC dX6_isClosed_1 (by decide) ?_
  refine hr_aload_n hC dX6_isClosed_2 rfl 0 rfl ?_
  refine hr_getR hC hiX6_isClosed_X6 rfl km0 0 (by decide) hmX6_isClosed_7 rfl dX6_isClosed_3 ?_
  refine hr_iconst (v := 2) hC dX6_isClosed_6 (by decide) ?_
  refine hr_iald hC km1 dX6_isClosed_7 ?_
  refine hr_iconst (v := 1) hC dX6_isClosed_8 (by decide) ?_
  refine hr_isub hC dX6_isClosed_9 ?_
  refine hr_callSi (As := [.int p1, .int (0 : Int32), .int ((rd μ 1 (2 : Int32).toNatClampNeg) - (1 : Int32))]) hC rfl (tX6_in hI n p1 (0 : Int32) ((rd μ 1 (2 : Int32).toNatClampNeg) - (1 : Int32)) μ) (va_cwS 3 hC.1.2.2.2.2 gX6_isClosed_X6_in rfl rfl rfl (by decide +kernel) ⟨Nat.le_of_ble_eq_true rfl, Nat.le_of_ble_eq_true rfl⟩) rfl (Nat.le_of_ble_eq_true rfl) dX6_isClosed_10 (fun r10 m10 => ?_)
  exact hr_iretzC hC hr dX6_isClosed_13
theorem hmX6_ofFlat_7 : Cond.fieldLink RX6 7 "HeatBillsModel" "s" "[I" ∈ wsX6_ofFlat := List.mem_of_getElem? (i := 1) rfl
theorem hiX6_ofFlat_X6 : ∀ w ∈ wsX60, w ∈ wsX6_ofFlat := fun _ h => List.mem_cons_of_mem _ (List.mem_append_right _ h)
def fX6_ofFlat (n : Nat) (p1 : Int32) (p2 : Int32) (μ : hb_m) : Option (Int32 × hb_m) :=
if ib (((7 : Int32) + ((3 : Int32) * p1)) + p2) 415 then
some ((rd μ 1 (((7 : Int32) + ((3 : Int32) * p1)) + p2).toNatClampNeg), μ)
else none
abbrev rmX6_ofFlat : Room := { frames := 0, cells := 0, slots := 0, locals := 0 }
set_option maxRecDepth 100000 in
set_option maxHeartbeats 4000000 in
theorem tX6_ofFlat {l : Launch} {D : va_G} {ad : Nat → Nat} {dA : Nat → ClassId} (hI : hb_I 12 ad) (n : Nat) (p1 : Int32) (p2 : Int32) (μ : hb_m) : hb_M (hb_Qi vwCl kdM 12 ad D dA) l yX6_ofFlat wsX6_ofFlat rmX6_ofFlat vwCl kdM 12 ad D dA [] [] [.ref (ad 0), .int p1, .int p2] μ (fX6_ofFlat n p1 p2 μ) := by
  refine hb_start (cc := cX6_ofFlat) (maxL := 3) (ret := (some .int)) (by decide) rfl hI (Nat.le_of_ble_eq_true rfl) [(0, .ref (ad 0)), (1, .int p1), (2, .int p2)] rfl ?_
  intro p e s m args below meth c hC hr
  rw [fX6_ofFlat]
  refine hr_aload_n hC dX6_ofFlat_0 rfl 0 rfl ?_
  refine hr_getR hC hiX6_ofFlat_X6 rfl km0 0 (by decide) hmX6_ofFlat_7 rfl dX6_ofFlat_1 ?_
  refine hr_bipush (v := 7) hC dX6_ofFlat_4 (by decide) ?_
  refine hr_iconst (v := 3) hC dX6_ofFlat_6 (by decide) ?_
  refine hr_iload_n hC dX6_ofFlat_7 rfl 1 rfl ?_
  refine hr_imul hC dX6_ofFlat_8 ?_
  refine hr_iadd hC dX6_ofFlat_9 ?_
  refine hr_iload_n hC dX6_ofFlat_10 rfl 2 rfl ?_
  refine hr_iadd hC dX6_ofFlat_11 ?_
  refine hr_iald hC km1 dX6_ofFlat_12 ?_
  exact hr_ireti hC hr dX6_ofFlat_13
theorem hmX6_of_7 : Cond.fieldLink RX6 7 "HeatBillsModel" "s" "[I" ∈ wsX6_of := List.mem_of_getElem? (i := 1) rfl
theorem hiX6_of_X6 : ∀ w ∈ wsX60, w ∈ wsX6_of := fun _ h => List.mem_cons_of_mem _ (List.mem_append_right _ h)
def fX6_of (n : Nat) (p1 : Int32) (p2 : Int32) (μ : hb_m) : Option (Int32 × hb_m) :=
if ib (((31 : Int32) + ((5 : Int32) * p1)) + p2) 415 then
some ((rd μ 1 (((31 : Int32) + ((5 : Int32) * p1)) + p2).toNatClampNeg), μ)
else none
abbrev rmX6_of : Room := { frames := 0, cells := 0, slots := 0, locals := 0 }
set_option maxRecDepth 100000 in
set_option maxHeartbeats 4000000 in
theorem tX6_of {l : Launch} {D : va_G} {ad : Nat → Nat} {dA : Nat → ClassId} (hI : hb_I 12 ad) (n : Nat) (p1 : Int32) (p2 : Int32) (μ : hb_m) : hb_M (hb_Qi vwCl kdM 12 ad D dA) l yX6_of wsX6_of rmX6_of vwCl kdM 12 ad D dA [] [] [.ref (ad 0), .int p1, .int p2] μ (fX6_of n p1 p2 μ) := by
  refine hb_start (cc := cX6_of) (maxL := 3) (ret := (some .int)) (by decide) rfl hI (Nat.le_of_ble_eq_true rfl) [(0, .ref (ad 0)), (1, .int p1), (2, .int p2)] rfl ?_
  intro p e s m args below meth c hC hr
  rw [fX6_of]
  refine hr_aload_n hC dX6_of_0 rfl 0 rfl ?_
  refine hr_getR hC hiX6_of_X6 rfl km0 0 (by decide) hmX6_of_7 rfl dX6_of_1 ?_
  refine hr_bipush (v := 31) hC dX6_of_4 (by decide) ?_
  refine hr_iconst (v := 5) hC dX6_of_6 (by decide) ?_
  refine hr_iload_n hC dX6_of_7 rfl 1 rfl ?_
  refine hr_imul hC dX6_of_8 ?_
  refine hr_iadd hC dX6_of_9 ?_
  refine hr_iload_n hC dX6_of_10 rfl 2 rfl ?_
  refine hr_iadd hC dX6_of_11 ?_
  refine hr_iald hC km1 dX6_of_12 ?_
  exact hr_ireti hC hr dX6_of_13
theorem hmX6_puts_7 : Cond.fieldLink RX6 7 "HeatBillsModel" "s" "[I" ∈ wsX6_puts := List.mem_of_getElem? (i := 1) rfl
theorem hiX6_puts_X6 : ∀ w ∈ wsX60, w ∈ wsX6_puts := fun _ h => List.mem_cons_of_mem _ (List.mem_append_right _ h)
def fX6_puts (n : Nat) (p1 : Int32) (p2 : Int32) (p3 : Int32) (μ : hb_m) : Option (hb_m) :=
if ib (((31 : Int32) + ((5 : Int32) * p1)) + p2) 415 then
some (wr μ 1 (((31 : Int32) + ((5 : Int32) * p1)) + p2).toNatClampNeg p3)
else none
abbrev rmX6_puts : Room := { frames := 0, cells := 0, slots := 0, locals := 0 }
set_option maxRecDepth 100000 in
set_option maxHeartbeats 4000000 in
theorem tX6_puts {l : Launch} {D : va_G} {ad : Nat → Nat} {dA : Nat → ClassId} (hI : hb_I 12 ad) (n : Nat) (p1 : Int32) (p2 : Int32) (p3 : Int32) (μ : hb_m) : hb_M (hb_Qv vwCl kdM 12 ad D dA) l yX6_puts wsX6_puts rmX6_puts vwCl kdM 12 ad D dA [] [] [.ref (ad 0), .int p1, .int p2, .int p3] μ (fX6_puts n p1 p2 p3 μ) := by
  refine hb_start (cc := cX6_puts) (maxL := 4) (ret := none) (by decide) rfl hI (Nat.le_of_ble_eq_true rfl) [(0, .ref (ad 0)), (1, .int p1), (2, .int p2), (3, .int p3)] rfl ?_
  intro p e s m args below meth c hC hr
  rw [fX6_puts]
  refine hr_aload_n hC dX6_puts_0 rfl 0 rfl ?_
  refine hr_getR hC hiX6_puts_X6 rfl km0 0 (by decide) hmX6_puts_7 rfl dX6_puts_1 ?_
  refine hr_bipush (v := 31) hC dX6_puts_4 (by decide) ?_
  refine hr_iconst (v := 5) hC dX6_puts_6 (by decide) ?_
  refine hr_iload_n hC dX6_puts_7 rfl 1 rfl ?_
  refine hr_imul hC dX6_puts_8 ?_
  refine hr_iadd hC dX6_puts_9 ?_
  refine hr_iload_n hC dX6_puts_10 rfl 2 rfl ?_
  refine hr_iadd hC dX6_puts_11 ?_
  refine hr_iload_n hC dX6_puts_12 rfl 3 rfl ?_
  refine hr_iast hC km1 dX6_puts_13 ?_
  exact hr_vret hC hr dX6_puts_14
def fX6_old (n : Nat) (p0 : Int32) (p1 : Int32) (μ : hb_m) : Option (Int32 × hb_m) :=
some ((((131 : Int32) + ((71 : Int32) * p0)) + p1), μ)
abbrev rmX6_old : Room := { frames := 0, cells := 0, slots := 0, locals := 0 }
set_option maxRecDepth 100000 in
set_option maxHeartbeats 4000000 in
theorem tX6_old {l : Launch} {D : va_G} {ad : Nat → Nat} {dA : Nat → ClassId} (hI : hb_I 12 ad) (n : Nat) (p0 : Int32) (p1 : Int32) (μ : hb_m) : hb_M (hb_Qi vwCl kdM 12 ad D dA) l yX6_old wsX6_old rmX6_old vwCl kdM 12 ad D dA [] [] [.int p0, .int p1] μ (fX6_old n p0 p1 μ) := by
  refine hb_start (cc := cX6_old) (maxL := 2) (ret := (some .int)) (by decide) rfl hI (Nat.le_of_ble_eq_true rfl) [(0, .int p0), (1, .int p1)] rfl ?_
  intro p e s m args below meth c hC hr
  rw [fX6_old]
  refine hr_sipush (v := 131) hC dX6_old_0 (by decide) ?_
  refine hr_bipush (v := 71) hC dX6_old_3 (by decide) ?_
  refine hr_iload_n hC dX6_old_5 rfl 0 rfl ?_
  refine hr_imul hC dX6_old_6 ?_
  refine hr_iadd hC dX6_old_7 ?_
  refine hr_iload_n hC dX6_old_8 rfl 1 rfl ?_
  refine hr_iadd hC dX6_old_9 ?_
  exact hr_ireti hC hr dX6_old_10
def fX6_weight (n : Nat) (p0 : Int32) (μ : hb_m) : Option (Int32 × hb_m) :=
if p0 = 0 then
(some ((170 : Int32), μ))
else if p0 = 1 then
(some ((150 : Int32), μ))
else if p0 = 2 then
(some ((130 : Int32), μ))
else if p0 = 3 then
(some ((80 : Int32), μ))
else if p0 = 4 then
(some ((40 : Int32), μ))
else if p0 = 5 then
(some ((13 : Int32), μ))
else if p0 = 6 then
(some ((13 : Int32), μ))
else if p0 = 7 then
(some ((14 : Int32), μ))
else if p0 = 8 then
(some ((30 : Int32), μ))
else if p0 = 9 then
(some ((80 : Int32), μ))
else if p0 = 10 then
(some ((120 : Int32), μ))
else if p0 = 11 then
(some ((160 : Int32), μ))
else 
(some ((13 : Int32), μ))
abbrev rmX6_weight : Room := { frames := 0, cells := 0, slots := 0, locals := 0 }
set_option maxRecDepth 100000 in
set_option maxHeartbeats 4000000 in
theorem tX6_weight {l : Launch} {D : va_G} {ad : Nat → Nat} {dA : Nat → ClassId} (hI : hb_I 12 ad) (n : Nat) (p0 : Int32) (μ : hb_m) : hb_M (hb_Qi vwCl kdM 12 ad D dA) l yX6_weight wsX6_weight rmX6_weight vwCl kdM 12 ad D dA [] [] [.int p0] μ (fX6_weight n p0 μ) := by
  refine hb_start (cc := cX6_weight) (maxL := 1) (ret := (some .int)) (by decide) rfl hI (Nat.le_of_ble_eq_true rfl) [(0, .int p0)] rfl ?_
  intro p e s m args below meth c hC hr
  rw [fX6_weight]
  refine hr_iload_n hC dX6_weight_0 rfl 0 rfl ?_
  refine hr_swIn (tgt := 64) (off := 63) (v := 0) hC dX6_weight_1 (by decide) (by decide) (by decide) (by decide) ?_ (fun g0 => ?_)
  · refine hr_sipush (v := 170) hC dX6_weight_64 (by decide) ?_
    exact hr_ireti hC hr dX6_weight_67
  refine hr_swIn (tgt := 68) (off := 67) (v := 1) hC dX6_weight_1 (by decide) (by decide) (by decide) (by decide) ?_ (fun g1 => ?_)
  · refine hr_sipush (v := 150) hC dX6_weight_68 (by decide) ?_
    exact hr_ireti hC hr dX6_weight_71
  refine hr_swIn (tgt := 72) (off := 71) (v := 2) hC dX6_weight_1 (by decide) (by decide) (by decide) (by decide) ?_ (fun g2 => ?_)
  · refine hr_sipush (v := 130) hC dX6_weight_72 (by decide) ?_
    exact hr_ireti hC hr dX6_weight_75
  refine hr_swIn (tgt := 76) (off := 75) (v := 3) hC dX6_weight_1 (by decide) (by decide) (by decide) (by decide) ?_ (fun g3 => ?_)
  · refine hr_bipush (v := 80) hC dX6_weight_76 (by decide) ?_
    exact hr_ireti hC hr dX6_weight_78
  refine hr_swIn (tgt := 79) (off := 78) (v := 4) hC dX6_weight_1 (by decide) (by decide) (by decide) (by decide) ?_ (fun g4 => ?_)
  · refine hr_bipush (v := 40) hC dX6_weight_79 (by decide) ?_
    exact hr_ireti hC hr dX6_weight_81
  refine hr_swIn (tgt := 95) (off := 94) (v := 5) hC dX6_weight_1 (by decide) (by decide) (by decide) (by decide) ?_ (fun g5 => ?_)
  · refine hr_bipush (v := 13) hC dX6_weight_95 (by decide) ?_
    exact hr_ireti hC hr dX6_weight_97
  refine hr_swIn (tgt := 95) (off := 94) (v := 6) hC dX6_weight_1 (by decide) (by decide) (by decide) (by decide) ?_ (fun g6 => ?_)
  · refine hr_bipush (v := 13) hC dX6_weight_95 (by decide) ?_
    exact hr_ireti hC hr dX6_weight_97
  refine hr_swIn (tgt := 82) (off := 81) (v := 7) hC dX6_weight_1 (by decide) (by decide) (by decide) (by decide) ?_ (fun g7 => ?_)
  · refine hr_bipush (v := 14) hC dX6_weight_82 (by decide) ?_
    exact hr_ireti hC hr dX6_weight_84
  refine hr_swIn (tgt := 85) (off := 84) (v := 8) hC dX6_weight_1 (by decide) (by decide) (by decide) (by decide) ?_ (fun g8 => ?_)
  · refine hr_bipush (v := 30) hC dX6_weight_85 (by decide) ?_
    exact hr_ireti hC hr dX6_weight_87
  refine hr_swIn (tgt := 76) (off := 75) (v := 9) hC dX6_weight_1 (by decide) (by decide) (by decide) (by decide) ?_ (fun g9 => ?_)
  · refine hr_bipush (v := 80) hC dX6_weight_76 (by decide) ?_
    exact hr_ireti hC hr dX6_weight_78
  refine hr_swIn (tgt := 88) (off := 87) (v := 10) hC dX6_weight_1 (by decide) (by decide) (by decide) (by decide) ?_ (fun g10 => ?_)
  · refine hr_bipush (v := 120) hC dX6_weight_88 (by decide) ?_
    exact hr_ireti hC hr dX6_weight_90
  refine hr_swIn (tgt := 91) (off := 90) (v := 11) hC dX6_weight_1 (by decide) (by decide) (by decide) (by decide) ?_ (fun g11 => ?_)
  · refine hr_sipush (v := 160) hC dX6_weight_91 (by decide) ?_
    exact hr_ireti hC hr dX6_weight_94
  refine hr_swOut (tgt := 95) hC dX6_weight_1 (by have e0 := lv_neT g0 (a := 0) rfl; have e1 := lv_neT g1 (a := 1) rfl; have e2 := lv_neT g2 (a := 2) rfl; have e3 := lv_neT g3 (a := 3) rfl; have e4 := lv_neT g4 (a := 4) rfl; have e5 := lv_neT g5 (a := 5) rfl; have e6 := lv_neT g6 (a := 6) rfl; have e7 := lv_neT g7 (a := 7) rfl; have e8 := lv_neT g8 (a := 8) rfl; have e9 := lv_neT g9 (a := 9) rfl; have e10 := lv_neT g10 (a := 10) rfl; have e11 := lv_neT g11 (a := 11) rfl; omega) (by decide) ?_
  refine hr_bipush (v := 13) hC dX6_weight_95 (by decide) ?_
  exact hr_ireti hC hr dX6_weight_97
def lX6_weightsAhead_4 (n : Nat) (p0 : Int32) (k : Int32 → Int32 → hb_m → Option (Int32 × hb_m)) : Nat → Int32 → Int32 → hb_m → Option (Int32 × hb_m)
  | 0, _, _, _ => none
  | f + 1, x2, x1, μ => if p0 ≤ x2 then
(k x2 x1 μ)
else
(bi (fX6_weight n x2 μ) (fun r11 m11 =>
lX6_weightsAhead_4 n p0 k f (x2 + (1 : Int32)) (x1 + r11) m11))
def fX6_weightsAhead (n : Nat) (p0 : Int32) (μ : hb_m) : Option (Int32 × hb_m) :=
lX6_weightsAhead_4 n p0 (fun x2_4 x1_4 m4 =>
some (x1_4, m4)) n (0 : Int32) (0 : Int32) μ
abbrev rmX6_weightsAhead : Room := { frames := 1, cells := 0, slots := 0, locals := 20 }
set_option maxRecDepth 100000 in
set_option maxHeartbeats 4000000 in
theorem tX6_weightsAhead {l : Launch} {D : va_G} {ad : Nat → Nat} {dA : Nat → ClassId} (hI : hb_I 12 ad) (n : Nat) (p0 : Int32) (μ : hb_m) : hb_M (hb_Qi vwCl kdM 12 ad D dA) l yX6_weightsAhead wsX6_weightsAhead rmX6_weightsAhead vwCl kdM 12 ad D dA [] [] [.int p0] μ (fX6_weightsAhead n p0 μ) := by
  refine hb_start (cc := cX6_weightsAhead) (maxL := 3) (ret := (some .int)) (by decide) rfl hI (Nat.le_of_ble_eq_true rfl) [(0, .int p0)] rfl ?_
  intro p e s m args below meth c hC hr
  have L4 : ∀ (k : Int32 → Int32 → hb_m → Option (Int32 × hb_m)) (hk : ∀ (x2 : Int32) (x1 : Int32) (μ : hb_m), hb_V p l e rmX6_weightsAhead s m args below meth c 3 vwCl kdM 12 ad D dA (hb_Qi vwCl kdM 12 ad D dA) μ 22 [(2, .int x2), (1, .int x1), (0, .int p0)] [] (k x2 x1 μ)) (f : Nat) (x2 : Int32) (x1 : Int32) (μ : hb_m), hb_V p l e rmX6_weightsAhead s m args below meth c 3 vwCl kdM 12 ad D dA (hb_Qi vwCl kdM 12 ad D dA) μ 4 [(2, .int x2), (1, .int x1), (0, .int p0)] [] (lX6_weightsAhead_4 n p0 k f x2 x1 μ) := by
    intro k hk f
    induction f with
    | zero => intro x2 x1 μ; rw [lX6_weightsAhead_4]; exact hr_none
    | succ f ih =>
      intro x2 x1 μ
      rw [lX6_weightsAhead_4]
      refine hr_iload_n hC dX6_weightsAhead_4 rfl 0 rfl ?_
      refine hr_iload_n hC dX6_weightsAhead_5 rfl 2 rfl ?_
      refine hr_icmp_ge (tgt := 22) hC dX6_weightsAhead_6 (by decide) (fun _ => ?_) (fun _ => ?_)
      · refine hr_sub (lv' := [(2, .int x2), (1, .int x1), (0, .int p0)]) [0, 1, 2] rfl ?_
        exact hk _ _ _
      · refine hr_iload_n hC dX6_weightsAhead_9 rfl 1 rfl ?_
        refine hr_iload_n hC dX6_weightsAhead_10 rfl 0 rfl ?_
        refine hr_callSi (As := [.int x2]) hC rfl (tX6_weight hI n x2 μ) (va_cwS 1 hC.1.2.2.2.2 gX6_weightsAhead_X6_weight rfl rfl rfl (by decide +kernel) ⟨Nat.le_of_ble_eq_true rfl, Nat.le_of_ble_eq_true rfl⟩) rfl (Nat.le_of_ble_eq_true rfl) dX6_weightsAhead_11 (fun r11 m11 => ?_)
        refine hr_iadd hC dX6_weightsAhead_14 ?_
        refine hr_istore_n (lv' := [(1, .int (x1 + r11)), (2, .int x2), (0, .int p0)]) hC dX6_weightsAhead_15 rfl (by decide) rfl ?_
        refine hr_iinc (v := (x2 + (1 : Int32))) (lv' := [(2, .int (x2 + (1 : Int32))), (1, .int (x1 + r11)), (0, .int p0)]) (kx := 1) hC dX6_weightsAhead_16 rfl rfl (by decide) rfl ?_
        refine hr_goto (tgt := 4) hC dX6_weightsAhead_19 (by decide) ?_
        refine hr_sub (lv' := [(2, .int (x2 + (1 : Int32))), (1, .int (x1 + r11)), (0, .int p0)]) [0, 1, 2] rfl ?_
        exact ih _ _ _
  rw [fX6_weightsAhead]
  refine hr_iconst (v := 0) hC dX6_weightsAhead_0 (by decide) ?_
  refine hr_istore_n (lv' := [(1, .int (0 : Int32)), (0, .int p0)]) hC dX6_weightsAhead_1 rfl (by decide) rfl ?_
  refine hr_iconst (v := 0) hC dX6_weightsAhead_2 (by decide) ?_
  refine hr_istore_n (lv' := [(2, .int (0 : Int32)), (1, .int (0 : Int32)), (0, .int p0)]) hC dX6_weightsAhead_3 rfl (by decide) rfl ?_
  refine hr_sub (lv' := [(2, .int (0 : Int32)), (1, .int (0 : Int32)), (0, .int p0)]) [0, 1, 2] rfl ?_
  refine L4 _ (fun x2_4 x1_4 m4 => ?_) _ _ _ _
  refine hr_iload_n hC dX6_weightsAhead_22 rfl 1 rfl ?_
  exact hr_ireti hC hr dX6_weightsAhead_23
def fX6_soundUnits (n : Nat) (p1 : Int32) (μ : hb_m) : Option (Int32 × hb_m) :=
bi (fX6_of n p1 (3 : Int32) μ) (fun r3 m3 =>
bi (fX6_of n p1 (2 : Int32) m3) (fun r9 m9 =>
bi (fX6_of n p1 (1 : Int32) m9) (fun r16 m16 =>
some (((r3 - r9) * r16), m16))))
abbrev rmX6_soundUnits : Room := { frames := 1, cells := 0, slots := 0, locals := 22 }
set_option maxRecDepth 100000 in
set_option maxHeartbeats 4000000 in
theorem tX6_soundUnits {l : Launch} {D : va_G} {ad : Nat → Nat} {dA : Nat → ClassId} (hI : hb_I 12 ad) (n : Nat) (p1 : Int32) (μ : hb_m) : hb_M (hb_Qi vwCl kdM 12 ad D dA) l yX6_soundUnits wsX6_soundUnits rmX6_soundUnits vwCl kdM 12 ad D dA [] [] [.ref (ad 0), .int p1] μ (fX6_soundUnits n p1 μ) := by
  refine hb_start (cc := cX6_soundUnits) (maxL := 2) (ret := (some .int)) (by decide) rfl hI (Nat.le_of_ble_eq_true rfl) [(0, .ref (ad 0)), (1, .int p1)] rfl ?_
  intro p e s m args below meth c hC hr
  rw [fX6_soundUnits]
  refine hr_aload_n hC dX6_soundUnits_0 rfl 0 rfl ?_
  refine hr_iload_n hC dX6_soundUnits_1 rfl 1 rfl ?_
  refine hr_iconst (v := 3) hC dX6_soundUnits_2 (by decide) ?_
  refine hr_callVi (As := [.int p1, .int (3 : Int32)]) (k := 0) hC rfl (tX6_of hI n p1 (3 : Int32) μ) (cwV 2 hC.1.2.2.2.2 gX6_soundUnits_X6_of rfl rfl rfl (by decide +kernel) ⟨Nat.le_of_ble_eq_true rfl, Nat.le_of_ble_eq_true rfl⟩) km0 rfl rfl rfl (Nat.le_of_ble_eq_true rfl) dX6_soundUnits_3 (fun r3 m3 => ?_)
  refine hr_aload_n hC dX6_soundUnits_6 rfl 0 rfl ?_
  refine hr_iload_n hC dX6_soundUnits_7 rfl 1 rfl ?_
  refine hr_iconst (v := 2) hC dX6_soundUnits_8 (by decide) ?_
  refine hr_callVi (As := [.int p1, .int (2 : Int32)]) (k := 0) hC rfl (tX6_of hI n p1 (2 : Int32) m3) (cwV 2 hC.1.2.2.2.2 gX6_soundUnits_X6_of rfl rfl rfl (by decide +kernel) ⟨Nat.le_of_ble_eq_true rfl, Nat.le_of_ble_eq_true rfl⟩) km0 rfl rfl rfl (Nat.le_of_ble_eq_true rfl) dX6_soundUnits_9 (fun r9 m9 => ?_)
  refine hr_isub hC dX6_soundUnits_12 ?_
  refine hr_aload_n hC dX6_soundUnits_13 rfl 0 rfl ?_
  refine hr_iload_n hC dX6_soundUnits_14 rfl 1 rfl ?_
  refine hr_iconst (v := 1) hC dX6_soundUnits_15 (by decide) ?_
  refine hr_callVi (As := [.int p1, .int (1 : Int32)]) (k := 0) hC rfl (tX6_of hI n p1 (1 : Int32) m9) (cwV 2 hC.1.2.2.2.2 gX6_soundUnits_X6_of rfl rfl rfl (by decide +kernel) ⟨Nat.le_of_ble_eq_true rfl, Nat.le_of_ble_eq_true rfl⟩) km0 rfl rfl rfl (Nat.le_of_ble_eq_true rfl) dX6_soundUnits_16 (fun r16 m16 => ?_)
  refine hr_imul hC dX6_soundUnits_19 ?_
  exact hr_ireti hC hr dX6_soundUnits_20
theorem hmX6_estimated_7 : Cond.fieldLink RX6 7 "HeatBillsModel" "s" "[I" ∈ wsX6_estimated := List.mem_of_getElem? (i := 1) rfl
theorem hiX6_estimated_X6 : ∀ w ∈ wsX60, w ∈ wsX6_estimated := fun _ h => List.mem_cons_of_mem _ (List.mem_append_right _ h)
def lX6_estimated_7 (n : Nat) (p1 : Int32) (k : Int32 → Int32 → Int32 → hb_m → Option (Int32 × hb_m)) : Nat → Int32 → Int32 → Int32 → hb_m → Option (Int32 × hb_m)
  | 0, _, _, _, _ => none
  | f + 1, x4, x3, x2, μ => if ib (1 : Int32) 415 then
if (rd μ 1 (1 : Int32).toNatClampNeg) ≤ x4 then
(k x4 x3 x2 μ)
else
(bi (fX6_of n x4 (4 : Int32) μ) (fun r22 m22 =>
if r22 = 0 then
(bi (fX6_soundUnits n x4 m22) (fun r44 m44 =>
bi (fX6_of n x4 (1 : Int32) m44) (fun r63 m63 =>
lX6_estimated_7 n p1 k f (x4 + (1 : Int32)) (x3 + r63) (x2 + r44) m63)))
else
(lX6_estimated_7 n p1 k f (x4 + (1 : Int32)) (x3 + (0 : Int32)) (x2 + (0 : Int32)) m22)))
else none
def fX6_estimated (n : Nat) (p1 : Int32) (μ : hb_m) : Option (Int32 × hb_m) :=
lX6_estimated_7 n p1 (fun x4_7 x3_7 x2_7 m7 =>
if x3_7 = 0 then
(some ((0 : Int32), m7))
else
(bi (fX6_of n p1 (1 : Int32) m7) (fun r89 m89 =>
if x3_7 = 0 then none else
some (((r89 * x2_7) / x3_7), m89)))) n (0 : Int32) (0 : Int32) (0 : Int32) μ
abbrev rmX6_estimated : Room := { frames := 2, cells := 0, slots := 0, locals := 43 }
set_option maxRecDepth 100000 in
set_option maxHeartbeats 4000000 in
theorem tX6_estimated {l : Launch} {D : va_G} {ad : Nat → Nat} {dA : Nat → ClassId} (hI : hb_I 12 ad) (n : Nat) (p1 : Int32) (μ : hb_m) : hb_M (hb_Qi vwCl kdM 12 ad D dA) l yX6_estimated wsX6_estimated rmX6_estimated vwCl kdM 12 ad D dA [] [] [.ref (ad 0), .int p1] μ (fX6_estimated n p1 μ) := by
  refine hb_start (cc := cX6_estimated) (maxL := 6) (ret := (some .int)) (by decide) rfl hI (Nat.le_of_ble_eq_true rfl) [(0, .ref (ad 0)), (1, .int p1)] rfl ?_
  intro p e s m args below meth c hC hr
  have L7 : ∀ (k : Int32 → Int32 → Int32 → hb_m → Option (Int32 × hb_m)) (hk : ∀ (x4 : Int32) (x3 : Int32) (x2 : Int32) (μ : hb_m), hb_V p l e rmX6_estimated s m args below meth c 6 vwCl kdM 12 ad D dA (hb_Qi vwCl kdM 12 ad D dA) μ 78 [(4, .int x4), (3, .int x3), (2, .int x2), (0, .ref (ad 0)), (1, .int p1)] [] (k x4 x3 x2 μ)) (f : Nat) (x4 : Int32) (x3 : Int32) (x2 : Int32) (μ : hb_m), hb_V p l e rmX6_estimated s m args below meth c 6 vwCl kdM 12 ad D dA (hb_Qi vwCl kdM 12 ad D dA) μ 7 [(4, .int x4), (3, .int x3), (2, .int x2), (0, .ref (ad 0)), (1, .int p1)] [] (lX6_estimated_7 n p1 k f x4 x3 x2 μ) := by
    intro k hk f
    induction f with
    | zero => intro x4 x3 x2 μ; rw [lX6_estimated_7]; exact hr_none
    | succ f ih =>
      intro x4 x3 x2 μ
      rw [lX6_estimated_7]
      refine hr_iload hC dX6_estimated_7 0 rfl ?_
      refine hr_aload_n hC dX6_estimated_9 rfl 3 rfl ?_
      refine hr_getR hC hiX6_estimated_X6 rfl km0 0 (by decide) hmX6_estimated_7 rfl dX6_estimated_10 ?_
      refine hr_iconst (v := 1) hC dX6_estimated_13 (by decide) ?_
      refine hr_iald hC km1 dX6_estimated_14 ?_
      refine hr_icmp_ge (tgt := 78) hC dX6_estimated_15 (by decide) (fun _ => ?_) (fun _ => ?_)
      · refine hr_sub (lv' := [(4, .int x4), (3, .int x3), (2, .int x2), (0, .ref (ad 0)), (1, .int p1)]) [0, 1, 2, 3, 4] rfl ?_
        exact hk _ _ _ _
      · refine hr_aload_n hC dX6_estimated_18 rfl 3 rfl ?_
        refine hr_iload hC dX6_estimated_19 0 rfl ?_
        refine hr_iconst (v := 4) hC dX6_estimated_21 (by decide) ?_
        refine hr_callVi (As := [.int x4, .int (4 : Int32)]) (k := 0) hC rfl (tX6_of hI n x4 (4 : Int32) μ) (cwV 2 hC.1.2.2.2.2 gX6_estimated_X6_of rfl rfl rfl (by decide +kernel) ⟨Nat.le_of_ble_eq_true rfl, Nat.le_of_ble_eq_true rfl⟩) km0 rfl rfl rfl (Nat.le_of_ble_eq_true rfl) dX6_estimated_22 (fun r22 m22 => ?_)
        refine hr_if_ne (tgt := 32) hC dX6_estimated_25 (by decide) (fun _ => ?_) (fun _ => ?_)
        · refine hr_iconst (v := 1) hC dX6_estimated_28 (by decide) ?_
          refine hr_goto (tgt := 33) hC dX6_estimated_29 (by decide) ?_
          refine hr_istore (lv' := [(5, .int (1 : Int32)), (4, .int x4), (3, .int x3), (2, .int x2), (0, .ref (ad 0)), (1, .int p1)]) hC dX6_estimated_33 (by decide) rfl ?_
          refine hr_iload_n hC dX6_estimated_35 rfl 3 rfl ?_
          refine hr_iload hC dX6_estimated_36 0 rfl ?_
          refine hr_if_eqF (tgt := 50) hC dX6_estimated_38 (by decide) (by decide) ?_
          refine hr_aload_n hC dX6_estimated_41 rfl 4 rfl ?_
          refine hr_iload hC dX6_estimated_42 1 rfl ?_
          refine hr_callVi (As := [.int x4]) (k := 0) hC rfl (tX6_soundUnits hI n x4 m22) (cwV 1 hC.1.2.2.2.2 gX6_estimated_X6_soundUnits rfl rfl rfl (by decide +kernel) ⟨Nat.le_of_ble_eq_true rfl, Nat.le_of_ble_eq_true rfl⟩) km0 rfl rfl rfl (Nat.le_of_ble_eq_true rfl) dX6_estimated_44 (fun r44 m44 => ?_)
          refine hr_goto (tgt := 51) hC dX6_estimated_47 (by decide) ?_
          refine hr_iadd hC dX6_estimated_51 ?_
          refine hr_istore_n (lv' := [(2, .int (x2 + r44)), (5, .int (1 : Int32)), (4, .int x4), (3, .int x3), (0, .ref (ad 0)), (1, .int p1)]) hC dX6_estimated_52 rfl (by decide) rfl ?_
          refine hr_iload_n hC dX6_estimated_53 rfl 3 rfl ?_
          refine hr_iload hC dX6_estimated_54 1 rfl ?_
          refine hr_if_eqF (tgt := 69) hC dX6_estimated_56 (by decide) (by decide) ?_
          refine hr_aload_n hC dX6_estimated_59 rfl 4 rfl ?_
          refine hr_iload hC dX6_estimated_60 2 rfl ?_
          refine hr_iconst (v := 1) hC dX6_estimated_62 (by decide) ?_
          refine hr_callVi (As := [.int x4, .int (1 : Int32)]) (k := 0) hC rfl (tX6_of hI n x4 (1 : Int32) m44) (cwV 2 hC.1.2.2.2.2 gX6_estimated_X6_of rfl rfl rfl (by decide +kernel) ⟨Nat.le_of_ble_eq_true rfl, Nat.le_of_ble_eq_true rfl⟩) km0 rfl rfl rfl (Nat.le_of_ble_eq_true rfl) dX6_estimated_63 (fun r63 m63 => ?_)
          refine hr_goto (tgt := 70) hC dX6_estimated_66 (by decide) ?_
          refine hr_iadd hC dX6_estimated_70 ?_
          refine hr_istore_n (lv' := [(3, .int (x3 + r63)), (2, .int (x2 + r44)), (5, .int (1 : Int32)), (4, .int x4), (0, .ref (ad 0)), (1, .int p1)]) hC dX6_estimated_71 rfl (by decide) rfl ?_
          refine hr_iinc (v := (x4 + (1 : Int32))) (lv' := [(4, .int (x4 + (1 : Int32))), (3, .int (x3 + r63)), (2, .int (x2 + r44)), (5, .int (1 : Int32)), (0, .ref (ad 0)), (1, .int p1)]) (kx := 3) hC dX6_estimated_72 rfl rfl (by decide) rfl ?_
          refine hr_goto (tgt := 7) hC dX6_estimated_75 (by decide) ?_
          refine hr_sub (lv' := [(4, .int (x4 + (1 : Int32))), (3, .int (x3 + r63)), (2, .int (x2 + r44)), (0, .ref (ad 0)), (1, .int p1)]) [0, 1, 2, 4, 5] rfl ?_
          exact ih _ _ _ _
        · refine hr_iconst (v := 0) hC dX6_estimated_32 (by decide) ?_
          refine hr_istore (lv' := [(5, .int (0 : Int32)), (4, .int x4), (3, .int x3), (2, .int x2), (0, .ref (ad 0)), (1, .int p1)]) hC dX6_estimated_33 (by decide) rfl ?_
          refine hr_iload_n hC dX6_estimated_35 rfl 3 rfl ?_
          refine hr_iload hC dX6_estimated_36 0 rfl ?_
          refine hr_if_eqT (tgt := 50) hC dX6_estimated_38 (by decide) (by decide) ?_
          refine hr_iconst (v := 0) hC dX6_estimated_50 (by decide) ?_
          refine hr_iadd hC dX6_estimated_51 ?_
          refine hr_istore_n (lv' := [(2, .int (x2 + (0 : Int32))), (5, .int (0 : Int32)), (4, .int x4), (3, .int x3), (0, .ref (ad 0)), (1, .int p1)]) hC dX6_estimated_52 rfl (by decide) rfl ?_
          refine hr_iload_n hC dX6_estimated_53 rfl 3 rfl ?_
          refine hr_iload hC dX6_estimated_54 1 rfl ?_
          refine hr_if_eqT (tgt := 69) hC dX6_estimated_56 (by decide) (by decide) ?_
          refine hr_iconst (v := 0) hC dX6_estimated_69 (by decide) ?_
          refine hr_iadd hC dX6_estimated_70 ?_
          refine hr_istore_n (lv' := [(3, .int (x3 + (0 : Int32))), (2, .int (x2 + (0 : Int32))), (5, .int (0 : Int32)), (4, .int x4), (0, .ref (ad 0)), (1, .int p1)]) hC dX6_estimated_71 rfl (by decide) rfl ?_
          refine hr_iinc (v := (x4 + (1 : Int32))) (lv' := [(4, .int (x4 + (1 : Int32))), (3, .int (x3 + (0 : Int32))), (2, .int (x2 + (0 : Int32))), (5, .int (0 : Int32)), (0, .ref (ad 0)), (1, .int p1)]) (kx := 3) hC dX6_estimated_72 rfl rfl (by decide) rfl ?_
          refine hr_goto (tgt := 7) hC dX6_estimated_75 (by decide) ?_
          refine hr_sub (lv' := [(4, .int (x4 + (1 : Int32))), (3, .int (x3 + (0 : Int32))), (2, .int (x2 + (0 : Int32))), (0, .ref (ad 0)), (1, .int p1)]) [0, 1, 2, 4, 5] rfl ?_
          exact ih _ _ _ _
  rw [fX6_estimated]
  refine hr_iconst (v := 0) hC dX6_estimated_0 (by decide) ?_
  refine hr_istore_n (lv' := [(2, .int (0 : Int32)), (0, .ref (ad 0)), (1, .int p1)]) hC dX6_estimated_1 rfl (by decide) rfl ?_
  refine hr_iconst (v := 0) hC dX6_estimated_2 (by decide) ?_
  refine hr_istore_n (lv' := [(3, .int (0 : Int32)), (2, .int (0 : Int32)), (0, .ref (ad 0)), (1, .int p1)]) hC dX6_estimated_3 rfl (by decide) rfl ?_
  refine hr_iconst (v := 0) hC dX6_estimated_4 (by decide) ?_
  refine hr_istore (lv' := [(4, .int (0 : Int32)), (3, .int (0 : Int32)), (2, .int (0 : Int32)), (0, .ref (ad 0)), (1, .int p1)]) hC dX6_estimated_5 (by decide) rfl ?_
  refine hr_sub (lv' := [(4, .int (0 : Int32)), (3, .int (0 : Int32)), (2, .int (0 : Int32)), (0, .ref (ad 0)), (1, .int p1)]) [0, 1, 2, 3, 4] rfl ?_
  refine L7 _ (fun x4_7 x3_7 x2_7 m7 => ?_) _ _ _ _ _
  refine hr_iload_n hC dX6_estimated_78 rfl 1 rfl ?_
  refine hr_if_ne (tgt := 86) hC dX6_estimated_79 (by decide) (fun _ => ?_) (fun _ => ?_)
  · refine hr_iconst (v := 0) hC dX6_estimated_82 (by decide) ?_
    refine hr_goto (tgt := 96) hC dX6_estimated_83 (by decide) ?_
    exact hr_ireti hC hr dX6_estimated_96
  · refine hr_aload_n hC dX6_estimated_86 rfl 3 rfl ?_
    refine hr_iload_n hC dX6_estimated_87 rfl 4 rfl ?_
    refine hr_iconst (v := 1) hC dX6_estimated_88 (by decide) ?_
    refine hr_callVi (As := [.int p1, .int (1 : Int32)]) (k := 0) hC rfl (tX6_of hI n p1 (1 : Int32) m7) (cwV 2 hC.1.2.2.2.2 gX6_estimated_X6_of rfl rfl rfl (by decide +kernel) ⟨Nat.le_of_ble_eq_true rfl, Nat.le_of_ble_eq_true rfl⟩) km0 rfl rfl rfl (Nat.le_of_ble_eq_true rfl) dX6_estimated_89 (fun r89 m89 => ?_)
    refine hr_iload_n hC dX6_estimated_92 rfl 2 rfl ?_
    refine hr_imul hC dX6_estimated_93 ?_
    refine hr_iload_n hC dX6_estimated_94 rfl 1 rfl ?_
    refine hr_idivZ hC dX6_estimated_95 ?_
    exact hr_ireti hC hr dX6_estimated_96
theorem hmX6_unitsNow_7 : Cond.fieldLink RX6 7 "HeatBillsModel" "s" "[I" ∈ wsX6_unitsNow := List.mem_of_getElem? (i := 1) rfl
theorem hiX6_unitsNow_X6 : ∀ w ∈ wsX60, w ∈ wsX6_unitsNow := fun _ h => List.mem_cons_of_mem _ (List.mem_append_right _ h)
def fX6_unitsNow (n : Nat) (p1 : Int32) (μ : hb_m) : Option (Int32 × hb_m) :=
bi (fX6_of n p1 (4 : Int32) μ) (fun r3 m3 =>
if r3 = 0 then
(bi (fX6_soundUnits n p1 m3) (fun r11 m11 =>
some (r11, m11)))
else
(if ib (2 : Int32) 415 then
if ((rd m3 1 (2 : Int32).toNatClampNeg) - (1 : Int32)) < 0 then
(if ib (5 : Int32) 415 then
if (rd m3 1 (5 : Int32).toNatClampNeg) = (1 : Int32) then
(bi (fX6_estimated n p1 m3) (fun r87 m87 =>
some (r87, m87)))
else
(bi (fX6_estimated n p1 m3) (fun r87 m87 =>
some (r87, m87)))
else none)
else
(if 0 ≤ ((rd m3 1 (2 : Int32).toNatClampNeg) - (1 : Int32)) then
(bi (fX6_old n ((rd m3 1 (2 : Int32).toNatClampNeg) - (1 : Int32)) (2 : Int32) m3) (fun r43 m43 =>
if ib r43 415 then
if (rd m43 1 r43.toNatClampNeg) ≤ p1 then
(if ib (5 : Int32) 415 then
if (rd m43 1 (5 : Int32).toNatClampNeg) = (1 : Int32) then
(bi (fX6_estimated n p1 m43) (fun r87 m87 =>
some (r87, m87)))
else
(bi (fX6_estimated n p1 m43) (fun r87 m87 =>
some (r87, m87)))
else none)
else
(if ib (5 : Int32) 415 then
if (rd m43 1 (5 : Int32).toNatClampNeg) = (1 : Int32) then
(bi (fX6_old n ((rd m3 1 (2 : Int32).toNatClampNeg) - (1 : Int32)) ((3 : Int32) + p1) m43) (fun r78 m78 =>
if ib r78 415 then
some ((rd m78 1 r78.toNatClampNeg), m78)
else none))
else
(bi (fX6_estimated n p1 m43) (fun r87 m87 =>
some (r87, m87)))
else none)
else none))
else
(bi (fX6_old n (0 : Int32) (2 : Int32) m3) (fun r43 m43 =>
if ib r43 415 then
if (rd m43 1 r43.toNatClampNeg) ≤ p1 then
(if ib (5 : Int32) 415 then
if (rd m43 1 (5 : Int32).toNatClampNeg) = (1 : Int32) then
(bi (fX6_estimated n p1 m43) (fun r87 m87 =>
some (r87, m87)))
else
(bi (fX6_estimated n p1 m43) (fun r87 m87 =>
some (r87, m87)))
else none)
else
(if ib (5 : Int32) 415 then
if (rd m43 1 (5 : Int32).toNatClampNeg) = (1 : Int32) then
(bi (fX6_old n ((rd m3 1 (2 : Int32).toNatClampNeg) - (1 : Int32)) ((3 : Int32) + p1) m43) (fun r78 m78 =>
if ib r78 415 then
some ((rd m78 1 r78.toNatClampNeg), m78)
else none))
else
(bi (fX6_estimated n p1 m43) (fun r87 m87 =>
some (r87, m87)))
else none)
else none)))
else none))
abbrev rmX6_unitsNow : Room := { frames := 3, cells := 0, slots := 0, locals := 68 }
set_option maxRecDepth 100000 in
set_option maxHeartbeats 4000000 in
theorem tX6_unitsNow {l : Launch} {D : va_G} {ad : Nat → Nat} {dA : Nat → ClassId} (hI : hb_I 12 ad) (n : Nat) (p1 : Int32) (μ : hb_m) : hb_M (hb_Qi vwCl kdM 12 ad D dA) l yX6_unitsNow wsX6_unitsNow rmX6_unitsNow vwCl kdM 12 ad D dA [] [] [.ref (ad 0), .int p1] μ (fX6_unitsNow n p1 μ) := by
  refine hb_start (cc := cX6_unitsNow) (maxL := 4) (ret := (some .int)) (by decide) rfl hI (Nat.le_of_ble_eq_true rfl) [(0, .ref (ad 0)), (1, .int p1)] rfl ?_
  intro p e s m args below meth c hC hr
  rw [fX6_unitsNow]
  refine hr_aload_n hC dX6_unitsNow_0 rfl 0 rfl ?_
  refine hr_iload_n hC dX6_unitsNow_1 rfl 1 rfl ?_
  refine hr_iconst (v := 4) hC dX6_unitsNow_2 (by decide) ?_
  refine hr_callVi (As := [.int p1, .int (4 : Int32)]) (k := 0) hC rfl (tX6_of hI n p1 (4 : Int32) μ) (cwV 2 hC.1.2.2.2.2 gX6_unitsNow_X6_of rfl rfl rfl (by decide +kernel) ⟨Nat.le_of_ble_eq_true rfl, Nat.le_of_ble_eq_true rfl⟩) km0 rfl rfl rfl (Nat.le_of_ble_eq_true rfl) dX6_unitsNow_3 (fun r3 m3 => ?_)
  refine hr_if_ne (tgt := 15) hC dX6_unitsNow_6 (by decide) (fun _ => ?_) (fun _ => ?_)
  · refine hr_aload_n hC dX6_unitsNow_9 rfl 0 rfl ?_
    refine hr_iload_n hC dX6_unitsNow_10 rfl 1 rfl ?_
    refine hr_callVi (As := [.int p1]) (k := 0) hC rfl (tX6_soundUnits hI n p1 m3) (cwV 1 hC.1.2.2.2.2 gX6_unitsNow_X6_soundUnits rfl rfl rfl (by decide +kernel) ⟨Nat.le_of_ble_eq_true rfl, Nat.le_of_ble_eq_true rfl⟩) km0 rfl rfl rfl (Nat.le_of_ble_eq_true rfl) dX6_unitsNow_11 (fun r11 m11 => ?_)
    exact hr_ireti hC hr dX6_unitsNow_14
  · refine hr_aload_n hC dX6_unitsNow_15 rfl 0 rfl ?_
    refine hr_getR hC hiX6_unitsNow_X6 rfl km0 0 (by decide) hmX6_unitsNow_7 rfl dX6_unitsNow_16 ?_
    refine hr_iconst (v := 2) hC dX6_unitsNow_19 (by decide) ?_
    refine hr_iald hC km1 dX6_unitsNow_20 ?_
    refine hr_iconst (v := 1) hC dX6_unitsNow_21 (by decide) ?_
    refine hr_isub hC dX6_unitsNow_22 ?_
    refine hr_istore_n (lv' := [(2, .int ((rd m3 1 (2 : Int32).toNatClampNeg) - (1 : Int32))), (0, .ref (ad 0)), (1, .int p1)]) hC dX6_unitsNow_23 rfl (by decide) rfl ?_
    refine hr_iload_n hC dX6_unitsNow_24 rfl 0 rfl ?_
    refine hr_if_lt (tgt := 54) hC dX6_unitsNow_25 (by decide) (fun _ => ?_) (fun _ => ?_)
    · refine hr_iconst (v := 0) hC dX6_unitsNow_54 (by decide) ?_
      refine hr_istore_n (lv' := [(3, .int (0 : Int32)), (2, .int ((rd m3 1 (2 : Int32).toNatClampNeg) - (1 : Int32))), (0, .ref (ad 0)), (1, .int p1)]) hC dX6_unitsNow_55 rfl (by decide) rfl ?_
      refine hr_aload_n hC dX6_unitsNow_56 rfl 2 rfl ?_
      refine hr_getR hC hiX6_unitsNow_X6 rfl km0 0 (by decide) hmX6_unitsNow_7 rfl dX6_unitsNow_57 ?_
      refine hr_iconst (v := 5) hC dX6_unitsNow_60 (by decide) ?_
      refine hr_iald hC km1 dX6_unitsNow_61 ?_
      refine hr_iconst (v := 1) hC dX6_unitsNow_62 (by decide) ?_
      refine hr_icmp_ne (tgt := 85) hC dX6_unitsNow_63 (by decide) (fun _ => ?_) (fun _ => ?_)
      · refine hr_iload_n hC dX6_unitsNow_66 rfl 0 rfl ?_
        refine hr_if_eqT (tgt := 85) hC dX6_unitsNow_67 (by decide) (by decide) ?_
        refine hr_aload_n hC dX6_unitsNow_85 rfl 2 rfl ?_
        refine hr_iload_n hC dX6_unitsNow_86 rfl 3 rfl ?_
        refine hr_callVi (As := [.int p1]) (k := 0) hC rfl (tX6_estimated hI n p1 m3) (cwV 1 hC.1.2.2.2.2 gX6_unitsNow_X6_estimated rfl rfl rfl (by decide +kernel) ⟨Nat.le_of_ble_eq_true rfl, Nat.le_of_ble_eq_true rfl⟩) km0 rfl rfl rfl (Nat.le_of_ble_eq_true rfl) dX6_unitsNow_87 (fun r87 m87 => ?_)
        exact hr_ireti hC hr dX6_unitsNow_90
      · refine hr_aload_n hC dX6_unitsNow_85 rfl 2 rfl ?_
        refine hr_iload_n hC dX6_unitsNow_86 rfl 3 rfl ?_
        refine hr_callVi (As := [.int p1]) (k := 0) hC rfl (tX6_estimated hI n p1 m3) (cwV 1 hC.1.2.2.2.2 gX6_unitsNow_X6_estimated rfl rfl rfl (by decide +kernel) ⟨Nat.le_of_ble_eq_true rfl, Nat.le_of_ble_eq_true rfl⟩) km0 rfl rfl rfl (Nat.le_of_ble_eq_true rfl) dX6_unitsNow_87 (fun r87 m87 => ?_)
        exact hr_ireti hC hr dX6_unitsNow_90
    · refine hr_iload_n hC dX6_unitsNow_28 rfl 2 rfl ?_
      refine hr_aload_n hC dX6_unitsNow_29 rfl 1 rfl ?_
      refine hr_getR hC hiX6_unitsNow_X6 rfl km0 0 (by decide) hmX6_unitsNow_7 rfl dX6_unitsNow_30 ?_
      refine hr_iload_n hC dX6_unitsNow_33 rfl 0 rfl ?_
      refine hr_if_ge (tgt := 41) hC dX6_unitsNow_34 (by decide) (fun _ => ?_) (fun _ => ?_)
      · refine hr_iload_n hC dX6_unitsNow_41 rfl 0 rfl ?_
        refine hr_iconst (v := 2) hC dX6_unitsNow_42 (by decide) ?_
        refine hr_callSi (As := [.int ((rd m3 1 (2 : Int32).toNatClampNeg) - (1 : Int32)), .int (2 : Int32)]) hC rfl (tX6_old hI n ((rd m3 1 (2 : Int32).toNatClampNeg) - (1 : Int32)) (2 : Int32) m3) (va_cwS 2 hC.1.2.2.2.2 gX6_unitsNow_X6_old rfl rfl rfl (by decide +kernel) ⟨Nat.le_of_ble_eq_true rfl, Nat.le_of_ble_eq_true rfl⟩) rfl (Nat.le_of_ble_eq_true rfl) dX6_unitsNow_43 (fun r43 m43 => ?_)
        refine hr_iald hC km1 dX6_unitsNow_46 ?_
        refine hr_icmp_ge (tgt := 54) hC dX6_unitsNow_47 (by decide) (fun _ => ?_) (fun _ => ?_)
        · refine hr_iconst (v := 0) hC dX6_unitsNow_54 (by decide) ?_
          refine hr_istore_n (lv' := [(3, .int (0 : Int32)), (2, .int ((rd m3 1 (2 : Int32).toNatClampNeg) - (1 : Int32))), (0, .ref (ad 0)), (1, .int p1)]) hC dX6_unitsNow_55 rfl (by decide) rfl ?_
          refine hr_aload_n hC dX6_unitsNow_56 rfl 2 rfl ?_
          refine hr_getR hC hiX6_unitsNow_X6 rfl km0 0 (by decide) hmX6_unitsNow_7 rfl dX6_unitsNow_57 ?_
          refine hr_iconst (v := 5) hC dX6_unitsNow_60 (by decide) ?_
          refine hr_iald hC km1 dX6_unitsNow_61 ?_
          refine hr_iconst (v := 1) hC dX6_unitsNow_62 (by decide) ?_
          refine hr_icmp_ne (tgt := 85) hC dX6_unitsNow_63 (by decide) (fun _ => ?_) (fun _ => ?_)
          · refine hr_iload_n hC dX6_unitsNow_66 rfl 0 rfl ?_
            refine hr_if_eqT (tgt := 85) hC dX6_unitsNow_67 (by decide) (by decide) ?_
            refine hr_aload_n hC dX6_unitsNow_85 rfl 2 rfl ?_
            refine hr_iload_n hC dX6_unitsNow_86 rfl 3 rfl ?_
            refine hr_callVi (As := [.int p1]) (k := 0) hC rfl (tX6_estimated hI n p1 m43) (cwV 1 hC.1.2.2.2.2 gX6_unitsNow_X6_estimated rfl rfl rfl (by decide +kernel) ⟨Nat.le_of_ble_eq_true rfl, Nat.le_of_ble_eq_true rfl⟩) km0 rfl rfl rfl (Nat.le_of_ble_eq_true rfl) dX6_unitsNow_87 (fun r87 m87 => ?_)
            exact hr_ireti hC hr dX6_unitsNow_90
          · refine hr_aload_n hC dX6_unitsNow_85 rfl 2 rfl ?_
            refine hr_iload_n hC dX6_unitsNow_86 rfl 3 rfl ?_
            refine hr_callVi (As := [.int p1]) (k := 0) hC rfl (tX6_estimated hI n p1 m43) (cwV 1 hC.1.2.2.2.2 gX6_unitsNow_X6_estimated rfl rfl rfl (by decide +kernel) ⟨Nat.le_of_ble_eq_true rfl, Nat.le_of_ble_eq_true rfl⟩) km0 rfl rfl rfl (Nat.le_of_ble_eq_true rfl) dX6_unitsNow_87 (fun r87 m87 => ?_)
            exact hr_ireti hC hr dX6_unitsNow_90
        · refine hr_iconst (v := 1) hC dX6_unitsNow_50 (by decide) ?_
          refine hr_goto (tgt := 55) hC dX6_unitsNow_51 (by decide) ?_
          refine hr_istore_n (lv' := [(3, .int (1 : Int32)), (2, .int ((rd m3 1 (2 : Int32).toNatClampNeg) - (1 : Int32))), (0, .ref (ad 0)), (1, .int p1)]) hC dX6_unitsNow_55 rfl (by decide) rfl ?_
          refine hr_aload_n hC dX6_unitsNow_56 rfl 2 rfl ?_
          refine hr_getR hC hiX6_unitsNow_X6 rfl km0 0 (by decide) hmX6_unitsNow_7 rfl dX6_unitsNow_57 ?_
          refine hr_iconst (v := 5) hC dX6_unitsNow_60 (by decide) ?_
          refine hr_iald hC km1 dX6_unitsNow_61 ?_
          refine hr_iconst (v := 1) hC dX6_unitsNow_62 (by decide) ?_
          refine hr_icmp_ne (tgt := 85) hC dX6_unitsNow_63 (by decide) (fun _ => ?_) (fun _ => ?_)
          · refine hr_iload_n hC dX6_unitsNow_66 rfl 0 rfl ?_
            refine hr_if_eqF (tgt := 85) hC dX6_unitsNow_67 (by decide) (by decide) ?_
            refine hr_aload_n hC dX6_unitsNow_70 rfl 2 rfl ?_
            refine hr_getR hC hiX6_unitsNow_X6 rfl km0 0 (by decide) hmX6_unitsNow_7 rfl dX6_unitsNow_71 ?_
            refine hr_iload_n hC dX6_unitsNow_74 rfl 1 rfl ?_
            refine hr_iconst (v := 3) hC dX6_unitsNow_75 (by decide) ?_
            refine hr_iload_n hC dX6_unitsNow_76 rfl 3 rfl ?_
            refine hr_iadd hC dX6_unitsNow_77 ?_
            refine hr_callSi (As := [.int ((rd m3 1 (2 : Int32).toNatClampNeg) - (1 : Int32)), .int ((3 : Int32) + p1)]) hC rfl (tX6_old hI n ((rd m3 1 (2 : Int32).toNatClampNeg) - (1 : Int32)) ((3 : Int32) + p1) m43) (va_cwS 2 hC.1.2.2.2.2 gX6_unitsNow_X6_old rfl rfl rfl (by decide +kernel) ⟨Nat.le_of_ble_eq_true rfl, Nat.le_of_ble_eq_true rfl⟩) rfl (Nat.le_of_ble_eq_true rfl) dX6_unitsNow_78 (fun r78 m78 => ?_)
            refine hr_iald hC km1 dX6_unitsNow_81 ?_
            refine hr_goto (tgt := 90) hC dX6_unitsNow_82 (by decide) ?_
            exact hr_ireti hC hr dX6_unitsNow_90
          · refine hr_aload_n hC dX6_unitsNow_85 rfl 2 rfl ?_
            refine hr_iload_n hC dX6_unitsNow_86 rfl 3 rfl ?_
            refine hr_callVi (As := [.int p1]) (k := 0) hC rfl (tX6_estimated hI n p1 m43) (cwV 1 hC.1.2.2.2.2 gX6_unitsNow_X6_estimated rfl rfl rfl (by decide +kernel) ⟨Nat.le_of_ble_eq_true rfl, Nat.le_of_ble_eq_true rfl⟩) km0 rfl rfl rfl (Nat.le_of_ble_eq_true rfl) dX6_unitsNow_87 (fun r87 m87 => ?_)
            exact hr_ireti hC hr dX6_unitsNow_90
      · refine hr_iconst (v := 0) hC dX6_unitsNow_37 (by decide) ?_
        refine hr_goto (tgt := 42) hC dX6_unitsNow_38 (by decide) ?_
        refine hr_iconst (v := 2) hC dX6_unitsNow_42 (by decide) ?_
        refine hr_callSi (As := [.int (0 : Int32), .int (2 : Int32)]) hC rfl (tX6_old hI n (0 : Int32) (2 : Int32) m3) (va_cwS 2 hC.1.2.2.2.2 gX6_unitsNow_X6_old rfl rfl rfl (by decide +kernel) ⟨Nat.le_of_ble_eq_true rfl, Nat.le_of_ble_eq_true rfl⟩) rfl (Nat.le_of_ble_eq_true rfl) dX6_unitsNow_43 (fun r43 m43 => ?_)
        refine hr_iald hC km1 dX6_unitsNow_46 ?_
        refine hr_icmp_ge (tgt := 54) hC dX6_unitsNow_47 (by decide) (fun _ => ?_) (fun _ => ?_)
        · refine hr_iconst (v := 0) hC dX6_unitsNow_54 (by decide) ?_
          refine hr_istore_n (lv' := [(3, .int (0 : Int32)), (2, .int ((rd m3 1 (2 : Int32).toNatClampNeg) - (1 : Int32))), (0, .ref (ad 0)), (1, .int p1)]) hC dX6_unitsNow_55 rfl (by decide) rfl ?_
          refine hr_aload_n hC dX6_unitsNow_56 rfl 2 rfl ?_
          refine hr_getR hC hiX6_unitsNow_X6 rfl km0 0 (by decide) hmX6_unitsNow_7 rfl dX6_unitsNow_57 ?_
          refine hr_iconst (v := 5) hC dX6_unitsNow_60 (by decide) ?_
          refine hr_iald hC km1 dX6_unitsNow_61 ?_
          refine hr_iconst (v := 1) hC dX6_unitsNow_62 (by decide) ?_
          refine hr_icmp_ne (tgt := 85) hC dX6_unitsNow_63 (by decide) (fun _ => ?_) (fun _ => ?_)
          · refine hr_iload_n hC dX6_unitsNow_66 rfl 0 rfl ?_
            refine hr_if_eqT (tgt := 85) hC dX6_unitsNow_67 (by decide) (by decide) ?_
            refine hr_aload_n hC dX6_unitsNow_85 rfl 2 rfl ?_
            refine hr_iload_n hC dX6_unitsNow_86 rfl 3 rfl ?_
            refine hr_callVi (As := [.int p1]) (k := 0) hC rfl (tX6_estimated hI n p1 m43) (cwV 1 hC.1.2.2.2.2 gX6_unitsNow_X6_estimated rfl rfl rfl (by decide +kernel) ⟨Nat.le_of_ble_eq_true rfl, Nat.le_of_ble_eq_true rfl⟩) km0 rfl rfl rfl (Nat.le_of_ble_eq_true rfl) dX6_unitsNow_87 (fun r87 m87 => ?_)
            exact hr_ireti hC hr dX6_unitsNow_90
          · refine hr_aload_n hC dX6_unitsNow_85 rfl 2 rfl ?_
            refine hr_iload_n hC dX6_unitsNow_86 rfl 3 rfl ?_
            refine hr_callVi (As := [.int p1]) (k := 0) hC rfl (tX6_estimated hI n p1 m43) (cwV 1 hC.1.2.2.2.2 gX6_unitsNow_X6_estimated rfl rfl rfl (by decide +kernel) ⟨Nat.le_of_ble_eq_true rfl, Nat.le_of_ble_eq_true rfl⟩) km0 rfl rfl rfl (Nat.le_of_ble_eq_true rfl) dX6_unitsNow_87 (fun r87 m87 => ?_)
            exact hr_ireti hC hr dX6_unitsNow_90
        · refine hr_iconst (v := 1) hC dX6_unitsNow_50 (by decide) ?_
          refine hr_goto (tgt := 55) hC dX6_unitsNow_51 (by decide) ?_
          refine hr_istore_n (lv' := [(3, .int (1 : Int32)), (2, .int ((rd m3 1 (2 : Int32).toNatClampNeg) - (1 : Int32))), (0, .ref (ad 0)), (1, .int p1)]) hC dX6_unitsNow_55 rfl (by decide) rfl ?_
          refine hr_aload_n hC dX6_unitsNow_56 rfl 2 rfl ?_
          refine hr_getR hC hiX6_unitsNow_X6 rfl km0 0 (by decide) hmX6_unitsNow_7 rfl dX6_unitsNow_57 ?_
          refine hr_iconst (v := 5) hC dX6_unitsNow_60 (by decide) ?_
          refine hr_iald hC km1 dX6_unitsNow_61 ?_
          refine hr_iconst (v := 1) hC dX6_unitsNow_62 (by decide) ?_
          refine hr_icmp_ne (tgt := 85) hC dX6_unitsNow_63 (by decide) (fun _ => ?_) (fun _ => ?_)
          · refine hr_iload_n hC dX6_unitsNow_66 rfl 0 rfl ?_
            refine hr_if_eqF (tgt := 85) hC dX6_unitsNow_67 (by decide) (by decide) ?_
            refine hr_aload_n hC dX6_unitsNow_70 rfl 2 rfl ?_
            refine hr_getR hC hiX6_unitsNow_X6 rfl km0 0 (by decide) hmX6_unitsNow_7 rfl dX6_unitsNow_71 ?_
            refine hr_iload_n hC dX6_unitsNow_74 rfl 1 rfl ?_
            refine hr_iconst (v := 3) hC dX6_unitsNow_75 (by decide) ?_
            refine hr_iload_n hC dX6_unitsNow_76 rfl 3 rfl ?_
            refine hr_iadd hC dX6_unitsNow_77 ?_
            refine hr_callSi (As := [.int ((rd m3 1 (2 : Int32).toNatClampNeg) - (1 : Int32)), .int ((3 : Int32) + p1)]) hC rfl (tX6_old hI n ((rd m3 1 (2 : Int32).toNatClampNeg) - (1 : Int32)) ((3 : Int32) + p1) m43) (va_cwS 2 hC.1.2.2.2.2 gX6_unitsNow_X6_old rfl rfl rfl (by decide +kernel) ⟨Nat.le_of_ble_eq_true rfl, Nat.le_of_ble_eq_true rfl⟩) rfl (Nat.le_of_ble_eq_true rfl) dX6_unitsNow_78 (fun r78 m78 => ?_)
            refine hr_iald hC km1 dX6_unitsNow_81 ?_
            refine hr_goto (tgt := 90) hC dX6_unitsNow_82 (by decide) ?_
            exact hr_ireti hC hr dX6_unitsNow_90
          · refine hr_aload_n hC dX6_unitsNow_85 rfl 2 rfl ?_
            refine hr_iload_n hC dX6_unitsNow_86 rfl 3 rfl ?_
            refine hr_callVi (As := [.int p1]) (k := 0) hC rfl (tX6_estimated hI n p1 m43) (cwV 1 hC.1.2.2.2.2 gX6_unitsNow_X6_estimated rfl rfl rfl (by decide +kernel) ⟨Nat.le_of_ble_eq_true rfl, Nat.le_of_ble_eq_true rfl⟩) km0 rfl rfl rfl (Nat.le_of_ble_eq_true rfl) dX6_unitsNow_87 (fun r87 m87 => ?_)
            exact hr_ireti hC hr dX6_unitsNow_90
theorem hmX6_greatestRest_7 : Cond.fieldLink RX6 7 "HeatBillsModel" "s" "[I" ∈ wsX6_greatestRest := List.mem_of_getElem? (i := 1) rfl
theorem hmX6_greatestRest_29 : Cond.fieldLink RX6 29 "HeatBillsModel" "rests" "[J" ∈ wsX6_greatestRest := List.mem_of_getElem? (i := 2) rfl
theorem hiX6_greatestRest_X6 : ∀ w ∈ wsX60, w ∈ wsX6_greatestRest := fun _ h => List.mem_cons_of_mem _ (List.mem_append_right _ h)
def lX6_greatestRest_4 (n : Nat) (k : Int32 → Int32 → hb_m → Option (Int32 × hb_m)) : Nat → Int32 → Int32 → hb_m → Option (Int32 × hb_m)
  | 0, _, _, _ => none
  | f + 1, x2, x1, μ => if ib (0 : Int32) 415 then
if (rd μ 1 (0 : Int32).toNatClampNeg) ≤ x2 then
(k x2 x1 μ)
else
(if ib x2 8 then
if ib x1 8 then
if (lg_cmp (rL μ 7 x2.toNatClampNeg) (rL μ 7 x1.toNatClampNeg)) ≤ 0 then
(lX6_greatestRest_4 n k f (x2 + (1 : Int32)) x1 μ)
else
(lX6_greatestRest_4 n k f (x2 + (1 : Int32)) x2 μ)
else none
else none)
else none
def fX6_greatestRest (n : Nat) (μ : hb_m) : Option (Int32 × hb_m) :=
lX6_greatestRest_4 n (fun x2_4 x1_4 m4 =>
some (x1_4, m4)) n (1 : Int32) (0 : Int32) μ
abbrev rmX6_greatestRest : Room := { frames := 0, cells := 0, slots := 0, locals := 0 }
set_option maxRecDepth 100000 in
set_option maxHeartbeats 4000000 in
theorem tX6_greatestRest {l : Launch} {D : va_G} {ad : Nat → Nat} {dA : Nat → ClassId} (hI : hb_I 12 ad) (n : Nat) (μ : hb_m) : hb_M (hb_Qi vwCl kdM 12 ad D dA) l yX6_greatestRest wsX6_greatestRest rmX6_greatestRest vwCl kdM 12 ad D dA [] [] [.ref (ad 0)] μ (fX6_greatestRest n μ) := by
  refine hb_start (cc := cX6_greatestRest) (maxL := 3) (ret := (some .int)) (by decide) rfl hI (Nat.le_of_ble_eq_true rfl) [(0, .ref (ad 0))] rfl ?_
  intro p e s m args below meth c hC hr
  have L4 : ∀ (k : Int32 → Int32 → hb_m → Option (Int32 × hb_m)) (hk : ∀ (x2 : Int32) (x1 : Int32) (μ : hb_m), hb_V p l e rmX6_greatestRest s m args below meth c 3 vwCl kdM 12 ad D dA (hb_Qi vwCl kdM 12 ad D dA) μ 42 [(2, .int x2), (1, .int x1), (0, .ref (ad 0))] [] (k x2 x1 μ)) (f : Nat) (x2 : Int32) (x1 : Int32) (μ : hb_m), hb_V p l e rmX6_greatestRest s m args below meth c 3 vwCl kdM 12 ad D dA (hb_Qi vwCl kdM 12 ad D dA) μ 4 [(2, .int x2), (1, .int x1), (0, .ref (ad 0))] [] (lX6_greatestRest_4 n k f x2 x1 μ) := by
    intro k hk f
    induction f with
    | zero => intro x2 x1 μ; rw [lX6_greatestRest_4]; exact hr_none
    | succ f ih =>
      intro x2 x1 μ
      rw [lX6_greatestRest_4]
      refine hr_iload_n hC dX6_greatestRest_4 rfl 0 rfl ?_
      refine hr_aload_n hC dX6_greatestRest_5 rfl 2 rfl ?_
      refine hr_getR hC hiX6_greatestRest_X6 rfl km0 0 (by decide) hmX6_greatestRest_7 rfl dX6_greatestRest_6 ?_
      refine hr_iconst (v := 0) hC dX6_greatestRest_9 (by decide) ?_
      refine hr_iald hC km1 dX6_greatestRest_10 ?_
      refine hr_icmp_ge (tgt := 42) hC dX6_greatestRest_11 (by decide) (fun _ => ?_) (fun _ => ?_)
      · refine hr_sub (lv' := [(2, .int x2), (1, .int x1), (0, .ref (ad 0))]) [0, 1, 2] rfl ?_
        exact hk _ _ _
      · refine hr_aload_n hC dX6_greatestRest_14 rfl 2 rfl ?_
        refine hr_getR hC hiX6_greatestRest_X6 rfl km0 9 (by decide) hmX6_greatestRest_29 rfl dX6_greatestRest_15 ?_
        refine hr_iload_n hC dX6_greatestRest_18 rfl 0 rfl ?_
        refine hr_lald hC km7 dX6_greatestRest_19 ?_
        refine hr_aload_n hC dX6_greatestRest_20 rfl 2 rfl ?_
        refine hr_getR hC hiX6_greatestRest_X6 rfl km0 9 (by decide) hmX6_greatestRest_29 rfl dX6_greatestRest_21 ?_
        refine hr_iload_n hC dX6_greatestRest_24 rfl 1 rfl ?_
        refine hr_lald hC km7 dX6_greatestRest_25 ?_
        refine hr_lcmp hC dX6_greatestRest_26 ?_
        refine hr_if_le (tgt := 34) hC dX6_greatestRest_27 (by decide) (fun _ => ?_) (fun _ => ?_)
        · refine hr_iload_n hC dX6_greatestRest_34 rfl 1 rfl ?_
          refine hr_istore_n (lv' := [(1, .int x1), (2, .int x2), (0, .ref (ad 0))]) hC dX6_greatestRest_35 rfl (by decide) rfl ?_
          refine hr_iinc (v := (x2 + (1 : Int32))) (lv' := [(2, .int (x2 + (1 : Int32))), (1, .int x1), (0, .ref (ad 0))]) (kx := 1) hC dX6_greatestRest_36 rfl rfl (by decide) rfl ?_
          refine hr_goto (tgt := 4) hC dX6_greatestRest_39 (by decide) ?_
          refine hr_sub (lv' := [(2, .int (x2 + (1 : Int32))), (1, .int x1), (0, .ref (ad 0))]) [0, 1, 2] rfl ?_
          exact ih _ _ _
        · refine hr_iload_n hC dX6_greatestRest_30 rfl 0 rfl ?_
          refine hr_goto (tgt := 35) hC dX6_greatestRest_31 (by decide) ?_
          refine hr_istore_n (lv' := [(1, .int x2), (2, .int x2), (0, .ref (ad 0))]) hC dX6_greatestRest_35 rfl (by decide) rfl ?_
          refine hr_iinc (v := (x2 + (1 : Int32))) (lv' := [(2, .int (x2 + (1 : Int32))), (1, .int x2), (0, .ref (ad 0))]) (kx := 1) hC dX6_greatestRest_36 rfl rfl (by decide) rfl ?_
          refine hr_goto (tgt := 4) hC dX6_greatestRest_39 (by decide) ?_
          refine hr_sub (lv' := [(2, .int (x2 + (1 : Int32))), (1, .int x2), (0, .ref (ad 0))]) [0, 1, 2] rfl ?_
          exact ih _ _ _
  rw [fX6_greatestRest]
  refine hr_iconst (v := 0) hC dX6_greatestRest_0 (by decide) ?_
  refine hr_istore_n (lv' := [(1, .int (0 : Int32)), (0, .ref (ad 0))]) hC dX6_greatestRest_1 rfl (by decide) rfl ?_
  refine hr_iconst (v := 1) hC dX6_greatestRest_2 (by decide) ?_
  refine hr_istore_n (lv' := [(2, .int (1 : Int32)), (1, .int (0 : Int32)), (0, .ref (ad 0))]) hC dX6_greatestRest_3 rfl (by decide) rfl ?_
  refine hr_sub (lv' := [(2, .int (1 : Int32)), (1, .int (0 : Int32)), (0, .ref (ad 0))]) [0, 1, 2] rfl ?_
  refine L4 _ (fun x2_4 x1_4 m4 => ?_) _ _ _ _
  refine hr_iload_n hC dX6_greatestRest_42 rfl 1 rfl ?_
  exact hr_ireti hC hr dX6_greatestRest_43

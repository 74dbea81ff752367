theorem hmX2_countUnits_44 : Cond.fieldLink RX2 44 "HeatBills$House" "openYear" "LHeatBills$Year;" ∈ wsX2_countUnits := List.mem_of_getElem? (i := 1) rfl
theorem hmX2_countUnits_71 : Cond.fieldLink RX2 71 "HeatBills$Year" "deviceCount" "I" ∈ wsX2_countUnits := List.mem_of_getElem? (i := 2) rfl
theorem hmX2_countUnits_31 : Cond.fieldLink RX2 31 "HeatBills$House" "faulty" "[Z" ∈ wsX2_countUnits := List.mem_of_getElem? (i := 3) rfl
theorem hmX2_countUnits_28 : Cond.fieldLink RX2 28 "HeatBills$House" "endReadings" "[I" ∈ wsX2_countUnits := List.mem_of_getElem? (i := 4) rfl
theorem hmX2_countUnits_25 : Cond.fieldLink RX2 25 "HeatBills$House" "beginReadings" "[I" ∈ wsX2_countUnits := List.mem_of_getElem? (i := 5) rfl
theorem hmX2_countUnits_85 : Cond.fieldLink RX2 85 "HeatBills$Year" "deviceUnits" "[I" ∈ wsX2_countUnits := List.mem_of_getElem? (i := 6) rfl
theorem hmX2_countUnits_22 : Cond.fieldLink RX2 22 "HeatBills$House" "factors" "[I" ∈ wsX2_countUnits := List.mem_of_getElem? (i := 7) rfl
theorem hiX2_countUnits_X2 : ∀ w ∈ wsX20, w ∈ wsX2_countUnits := fun _ h => List.mem_cons_of_mem _ (List.mem_append_left _ (List.mem_append_right _ h))
theorem hiX2_countUnits_X4 : ∀ w ∈ wsX40, w ∈ wsX2_countUnits := fun _ h => List.mem_cons_of_mem _ (List.mem_append_right _ h)
def lX2_countUnits_6 (n : Nat) (c0 : Nat) (k : Int32 → Int32 → Int32 → hb_m → Option (hb_m)) : Nat → Int32 → Int32 → Int32 → hb_m → Option (hb_m)
  | 0, _, _, _, _ => none
  | f + 1, x3, x2, x1, μ => if (rd μ (c0 + 8) 2) ≤ x3 then
(k x3 x2 x1 μ)
else
(if ib x3 20 then
if (rd μ (c0 + 6) x3.toNatClampNeg) = 0 then
(if ib x3 20 then
if ib x3 20 then
if ib x3 20 then
if ib x3 20 then
if ib x3 20 then
if ib x3 20 then
lX2_countUnits_6 n c0 k f (x3 + (1 : Int32)) (x2 + (rd (wr μ ((c0 + 8) + 3) x3.toNatClampNeg (((rd μ (c0 + 5) x3.toNatClampNeg) - (rd μ (c0 + 4) x3.toNatClampNeg)) * (rd μ (c0 + 3) x3.toNatClampNeg))) (c0 + 3) x3.toNatClampNeg)) (x1 + (rd (wr μ ((c0 + 8) + 3) x3.toNatClampNeg (((rd μ (c0 + 5) x3.toNatClampNeg) - (rd μ (c0 + 4) x3.toNatClampNeg)) * (rd μ (c0 + 3) x3.toNatClampNeg))) ((c0 + 8) + 3) x3.toNatClampNeg)) (wr μ ((c0 + 8) + 3) x3.toNatClampNeg (((rd μ (c0 + 5) x3.toNatClampNeg) - (rd μ (c0 + 4) x3.toNatClampNeg)) * (rd μ (c0 + 3) x3.toNatClampNeg)))
else none
else none
else none
else none
else none
else none)
else
(lX2_countUnits_6 n c0 k f (x3 + (1 : Int32)) x2 x1 μ)
else none)
def lX2_countUnits_88 (n : Nat) (c0 : Nat) (v2 : Int32) (v1 : Int32) (k : Int32 → hb_m → Option (hb_m)) : Nat → Int32 → hb_m → Option (hb_m)
  | 0, _, _ => none
  | f + 1, x3, μ => if (rd μ (c0 + 8) 2) ≤ x3 then
(k x3 μ)
else
(if ib x3 20 then
if (rd μ (c0 + 6) x3.toNatClampNeg) = 0 then
(lX2_countUnits_88 n c0 v2 v1 k f (x3 + (1 : Int32)) μ)
else
(bi (fX2_estimate n c0 x3 v1 v2 μ) (fun r120 m120 =>
if ib x3 20 then
lX2_countUnits_88 n c0 v2 v1 k f (x3 + (1 : Int32)) (wr m120 ((c0 + 8) + 3) x3.toNatClampNeg r120)
else none))
else none)
def fX2_countUnits (n : Nat) (c0 : Nat) (μ : hb_m) : Option (hb_m) :=
lX2_countUnits_6 n c0 (fun x3_6 x2_6 x1_6 m6 =>
lX2_countUnits_88 n c0 x2_6 x1_6 (fun x3_88 m88 =>
some m88) n (0 : Int32) m6) n (0 : Int32) (0 : Int32) (0 : Int32) μ
abbrev rmX2_countUnits : Room := { frames := 2, cells := 0, slots := 0, locals := 45 }
set_option maxRecDepth 100000 in
set_option maxHeartbeats 4000000 in
theorem tX2_countUnits {l : Launch} {D : va_G} {ad : Nat → Nat} {dA : Nat → ClassId} {t1 t2 : Nat} (hI : hb_I 241 ad) (n : Nat) (c0 : Nat) (h0 : hx_H c0) (μ : hb_m) : hb_M (hb_Qv vwCl kdX 241 ad D dA) l yX2_countUnits wsX2_countUnits rmX2_countUnits vwCl kdX 241 ad D dA (tbX t1 t2) nwX [.ref (ad c0)] μ (fX2_countUnits n c0 μ) := by
  refine hb_start (cc := cX2_countUnits) (maxL := 5) (ret := none) (by decide) rfl hI (Nat.le_of_ble_eq_true rfl) [(0, .ref (ad c0))] rfl ?_
  intro p e s m args below meth c hC hr
  have L6 : ∀ (k : Int32 → Int32 → Int32 → hb_m → Option (hb_m)) (hk : ∀ (x3 : Int32) (x2 : Int32) (x1 : Int32) (μ : hb_m), hb_V p l e rmX2_countUnits s m args below meth c 5 vwCl kdX 241 ad D dA (hb_Qv vwCl kdX 241 ad D dA) μ 86 [(3, .int x3), (2, .int x2), (1, .int x1), (0, .ref (ad c0))] [] (k x3 x2 x1 μ)) (f : Nat) (x3 : Int32) (x2 : Int32) (x1 : Int32) (μ : hb_m), hb_V p l e rmX2_countUnits s m args below meth c 5 vwCl kdX 241 ad D dA (hb_Qv vwCl kdX 241 ad D dA) μ 6 [(3, .int x3), (2, .int x2), (1, .int x1), (0, .ref (ad c0))] [] (lX2_countUnits_6 n c0 k f x3 x2 x1 μ) := by
    intro k hk f
    induction f with
    | zero => intro x3 x2 x1 μ; rw [lX2_countUnits_6]; exact hr_none
    | succ f ih =>
      intro x3 x2 x1 μ
      rw [lX2_countUnits_6]
      refine hr_iload_n hC dX2_countUnits_6 rfl 0 rfl ?_
      refine hr_aload_n hC dX2_countUnits_7 rfl 3 rfl ?_
      refine hr_getR hC hiX2_countUnits_X2 rfl (kxH h0) 9 (by decide) hmX2_countUnits_44 rfl dX2_countUnits_8 ?_
      refine hr_getI hC hiX2_countUnits_X4 rfl (kxY (hx_Yo h0)) 2 (by decide) hmX2_countUnits_71 rfl dX2_countUnits_11 ?_
      refine hr_icmp_ge (tgt := 86) hC dX2_countUnits_14 (by decide) (fun _ => ?_) (fun _ => ?_)
      · refine hr_sub (lv' := [(3, .int x3), (2, .int x2), (1, .int x1), (0, .ref (ad c0))]) [0, 1, 2, 3] rfl ?_
        exact hk _ _ _ _
      · refine hr_aload_n hC dX2_countUnits_17 rfl 3 rfl ?_
        refine hr_getR hC hiX2_countUnits_X2 rfl (kxH h0) 6 (by decide) hmX2_countUnits_31 rfl dX2_countUnits_18 ?_
        refine hr_iload_n hC dX2_countUnits_21 rfl 0 rfl ?_
        refine hr_zald hC (kxH6 h0) dX2_countUnits_22 ?_
        refine hr_if_ne (tgt := 80) hC dX2_countUnits_23 (by decide) (fun _ => ?_) (fun _ => ?_)
        · refine hr_aload_n hC dX2_countUnits_26 rfl 3 rfl ?_
          refine hr_getR hC hiX2_countUnits_X2 rfl (kxH h0) 5 (by decide) hmX2_countUnits_28 rfl dX2_countUnits_27 ?_
          refine hr_iload_n hC dX2_countUnits_30 rfl 0 rfl ?_
          refine hr_iald hC (kxH5 h0) dX2_countUnits_31 ?_
          refine hr_aload_n hC dX2_countUnits_32 rfl 3 rfl ?_
          refine hr_getR hC hiX2_countUnits_X2 rfl (kxH h0) 4 (by decide) hmX2_countUnits_25 rfl dX2_countUnits_33 ?_
          refine hr_iload_n hC dX2_countUnits_36 rfl 0 rfl ?_
          refine hr_iald hC (kxH4 h0) dX2_countUnits_37 ?_
          refine hr_isub hC dX2_countUnits_38 ?_
          refine hr_istore (lv' := [(4, .int ((rd μ (c0 + 5) x3.toNatClampNeg) - (rd μ (c0 + 4) x3.toNatClampNeg))), (3, .int x3), (2, .int x2), (1, .int x1), (0, .ref (ad c0))]) hC dX2_countUnits_39 (by decide) rfl ?_
          refine hr_aload_n hC dX2_countUnits_41 rfl 4 rfl ?_
          refine hr_getR hC hiX2_countUnits_X2 rfl (kxH h0) 9 (by decide) hmX2_countUnits_44 rfl dX2_countUnits_42 ?_
          refine hr_getR hC hiX2_countUnits_X4 rfl (kxY (hx_Yo h0)) 5 (by decide) hmX2_countUnits_85 rfl dX2_countUnits_45 ?_
          refine hr_iload_n hC dX2_countUnits_48 rfl 1 rfl ?_
          refine hr_iload hC dX2_countUnits_49 0 rfl ?_
          refine hr_aload_n hC dX2_countUnits_51 rfl 4 rfl ?_
          refine hr_getR hC hiX2_countUnits_X2 rfl (kxH h0) 3 (by decide) hmX2_countUnits_22 rfl dX2_countUnits_52 ?_
          refine hr_iload_n hC dX2_countUnits_55 rfl 1 rfl ?_
          refine hr_iald hC (kxH3 h0) dX2_countUnits_56 ?_
          refine hr_imul hC dX2_countUnits_57 ?_
          refine hr_iast hC (kxY3 (hx_Yo h0)) dX2_countUnits_58 ?_
          refine hr_iload_n hC dX2_countUnits_59 rfl 3 rfl ?_
          refine hr_aload_n hC dX2_countUnits_60 rfl 4 rfl ?_
          refine hr_getR hC hiX2_countUnits_X2 rfl (kxH h0) 9 (by decide) hmX2_countUnits_44 rfl dX2_countUnits_61 ?_
          refine hr_getR hC hiX2_countUnits_X4 rfl (kxY (hx_Yo h0)) 5 (by decide) hmX2_countUnits_85 rfl dX2_countUnits_64 ?_
          refine hr_iload_n hC dX2_countUnits_67 rfl 1 rfl ?_
          refine hr_iald hC (kxY3 (hx_Yo h0)) dX2_countUnits_68 ?_
          refine hr_iadd hC dX2_countUnits_69 ?_
          refine hr_istore_n (lv' := [(1, .int (x1 + (rd (wr μ ((c0 + 8) + 3) x3.toNatClampNeg (((rd μ (c0 + 5) x3.toNatClampNeg) - (rd μ (c0 + 4) x3.toNatClampNeg)) * (rd μ (c0 + 3) x3.toNatClampNeg))) ((c0 + 8) + 3) x3.toNatClampNeg))), (4, .int ((rd μ (c0 + 5) x3.toNatClampNeg) - (rd μ (c0 + 4) x3.toNatClampNeg))), (3, .int x3), (2, .int x2), (0, .ref (ad c0))]) hC dX2_countUnits_70 rfl (by decide) rfl ?_
          refine hr_iload_n hC dX2_countUnits_71 rfl 3 rfl ?_
          refine hr_aload_n hC dX2_countUnits_72 rfl 4 rfl ?_
          refine hr_getR hC hiX2_countUnits_X2 rfl (kxH h0) 3 (by decide) hmX2_countUnits_22 rfl dX2_countUnits_73 ?_
          refine hr_iload_n hC dX2_countUnits_76 rfl 2 rfl ?_
          refine hr_iald hC (kxH3 h0) dX2_countUnits_77 ?_
          refine hr_iadd hC dX2_countUnits_78 ?_
          refine hr_istore_n (lv' := [(2, .int (x2 + (rd (wr μ ((c0 + 8) + 3) x3.toNatClampNeg (((rd μ (c0 + 5) x3.toNatClampNeg) - (rd μ (c0 + 4) x3.toNatClampNeg)) * (rd μ (c0 + 3) x3.toNatClampNeg))) (c0 + 3) x3.toNatClampNeg))), (1, .int (x1 + (rd (wr μ ((c0 + 8) + 3) x3.toNatClampNeg (((rd μ (c0 + 5) x3.toNatClampNeg) - (rd μ (c0 + 4) x3.toNatClampNeg)) * (rd μ (c0 + 3) x3.toNatClampNeg))) ((c0 + 8) + 3) x3.toNatClampNeg))), (4, .int ((rd μ (c0 + 5) x3.toNatClampNeg) - (rd μ (c0 + 4) x3.toNatClampNeg))), (3, .int x3), (0, .ref (ad c0))]) hC dX2_countUnits_79 rfl (by decide) rfl ?_
          refine hr_iinc (v := (x3 + (1 : Int32))) (lv' := [(3, .int (x3 + (1 : Int32))), (2, .int (x2 + (rd (wr μ ((c0 + 8) + 3) x3.toNatClampNeg (((rd μ (c0 + 5) x3.toNatClampNeg) - (rd μ (c0 + 4) x3.toNatClampNeg)) * (rd μ (c0 + 3) x3.toNatClampNeg))) (c0 + 3) x3.toNatClampNeg))), (1, .int (x1 + (rd (wr μ ((c0 + 8) + 3) x3.toNatClampNeg (((rd μ (c0 + 5) x3.toNatClampNeg) - (rd μ (c0 + 4) x3.toNatClampNeg)) * (rd μ (c0 + 3) x3.toNatClampNeg))) ((c0 + 8) + 3) x3.toNatClampNeg))), (4, .int ((rd μ (c0 + 5) x3.toNatClampNeg) - (rd μ (c0 + 4) x3.toNatClampNeg))), (0, .ref (ad c0))]) (kx := 3) hC dX2_countUnits_80 rfl rfl (by decide) rfl ?_
          refine hr_goto (tgt := 6) hC dX2_countUnits_83 (by decide) ?_
          refine hr_sub (lv' := [(3, .int (x3 + (1 : Int32))), (2, .int (x2 + (rd (wr μ ((c0 + 8) + 3) x3.toNatClampNeg (((rd μ (c0 + 5) x3.toNatClampNeg) - (rd μ (c0 + 4) x3.toNatClampNeg)) * (rd μ (c0 + 3) x3.toNatClampNeg))) (c0 + 3) x3.toNatClampNeg))), (1, .int (x1 + (rd (wr μ ((c0 + 8) + 3) x3.toNatClampNeg (((rd μ (c0 + 5) x3.toNatClampNeg) - (rd μ (c0 + 4) x3.toNatClampNeg)) * (rd μ (c0 + 3) x3.toNatClampNeg))) ((c0 + 8) + 3) x3.toNatClampNeg))), (0, .ref (ad c0))]) [0, 1, 2, 4] rfl ?_
          exact ih _ _ _ _
        · refine hr_iinc (v := (x3 + (1 : Int32))) (lv' := [(3, .int (x3 + (1 : Int32))), (2, .int x2), (1, .int x1), (0, .ref (ad c0))]) (kx := 0) hC dX2_countUnits_80 rfl rfl (by decide) rfl ?_
          refine hr_goto (tgt := 6) hC dX2_countUnits_83 (by decide) ?_
          refine hr_sub (lv' := [(3, .int (x3 + (1 : Int32))), (2, .int x2), (1, .int x1), (0, .ref (ad c0))]) [0, 1, 2, 3] rfl ?_
          exact ih _ _ _ _
  have L88 : ∀ (v2 : Int32) (v1 : Int32) (k : Int32 → hb_m → Option (hb_m)) (hk : ∀ (x3 : Int32) (μ : hb_m), hb_V p l e rmX2_countUnits s m args below meth c 5 vwCl kdX 241 ad D dA (hb_Qv vwCl kdX 241 ad D dA) μ 130 [(3, .int x3), (2, .int v2), (1, .int v1), (0, .ref (ad c0))] [] (k x3 μ)) (f : Nat) (x3 : Int32) (μ : hb_m), hb_V p l e rmX2_countUnits s m args below meth c 5 vwCl kdX 241 ad D dA (hb_Qv vwCl kdX 241 ad D dA) μ 88 [(3, .int x3), (2, .int v2), (1, .int v1), (0, .ref (ad c0))] [] (lX2_countUnits_88 n c0 v2 v1 k f x3 μ) := by
    intro v2 v1 k hk f
    induction f with
    | zero => intro x3 μ; rw [lX2_countUnits_88]; exact hr_none
    | succ f ih =>
      intro x3 μ
      rw [lX2_countUnits_88]
      refine hr_iload_n hC dX2_countUnits_88 rfl 0 rfl ?_
      refine hr_aload_n hC dX2_countUnits_89 rfl 3 rfl ?_
      refine hr_getR hC hiX2_countUnits_X2 rfl (kxH h0) 9 (by decide) hmX2_countUnits_44 rfl dX2_countUnits_90 ?_
      refine hr_getI hC hiX2_countUnits_X4 rfl (kxY (hx_Yo h0)) 2 (by decide) hmX2_countUnits_71 rfl dX2_countUnits_93 ?_
      refine hr_icmp_ge (tgt := 130) hC dX2_countUnits_96 (by decide) (fun _ => ?_) (fun _ => ?_)
      · refine hr_sub (lv' := [(3, .int x3), (2, .int v2), (1, .int v1), (0, .ref (ad c0))]) [0, 1, 2, 3] rfl ?_
        exact hk _ _
      · refine hr_aload_n hC dX2_countUnits_99 rfl 3 rfl ?_
        refine hr_getR hC hiX2_countUnits_X2 rfl (kxH h0) 6 (by decide) hmX2_countUnits_31 rfl dX2_countUnits_100 ?_
        refine hr_iload_n hC dX2_countUnits_103 rfl 0 rfl ?_
        refine hr_zald hC (kxH6 h0) dX2_countUnits_104 ?_
        refine hr_if_eq (tgt := 124) hC dX2_countUnits_105 (by decide) (fun _ => ?_) (fun _ => ?_)
        · refine hr_iinc (v := (x3 + (1 : Int32))) (lv' := [(3, .int (x3 + (1 : Int32))), (2, .int v2), (1, .int v1), (0, .ref (ad c0))]) (kx := 0) hC dX2_countUnits_124 rfl rfl (by decide) rfl ?_
          refine hr_goto (tgt := 88) hC dX2_countUnits_127 (by decide) ?_
          refine hr_sub (lv' := [(3, .int (x3 + (1 : Int32))), (2, .int v2), (1, .int v1), (0, .ref (ad c0))]) [0, 1, 2, 3] rfl ?_
          exact ih _ _
        · refine hr_aload_n hC dX2_countUnits_108 rfl 3 rfl ?_
          refine hr_getR hC hiX2_countUnits_X2 rfl (kxH h0) 9 (by decide) hmX2_countUnits_44 rfl dX2_countUnits_109 ?_
          refine hr_getR hC hiX2_countUnits_X4 rfl (kxY (hx_Yo h0)) 5 (by decide) hmX2_countUnits_85 rfl dX2_countUnits_112 ?_
          refine hr_iload_n hC dX2_countUnits_115 rfl 0 rfl ?_
          refine hr_aload_n hC dX2_countUnits_116 rfl 3 rfl ?_
          refine hr_iload_n hC dX2_countUnits_117 rfl 0 rfl ?_
          refine hr_iload_n hC dX2_countUnits_118 rfl 2 rfl ?_
          refine hr_iload_n hC dX2_countUnits_119 rfl 1 rfl ?_
          refine hr_callVi (As := [.int x3, .int v1, .int v2]) (k := c0) hC rfl (tX2_estimate (t1 := t1) (t2 := t2) hI n c0 h0 x3 v1 v2 μ) (cwV 3 hC.1.2.2.2.2 gX2_countUnits_X2_estimate rfl rfl rfl (by decide +kernel) ⟨Nat.le_of_ble_eq_true rfl, Nat.le_of_ble_eq_true rfl⟩) (kxH h0) rfl rfl rfl (Nat.le_of_ble_eq_true rfl) dX2_countUnits_120 (fun r120 m120 => ?_)
          refine hr_iast hC (kxY3 (hx_Yo h0)) dX2_countUnits_123 ?_
          refine hr_iinc (v := (x3 + (1 : Int32))) (lv' := [(3, .int (x3 + (1 : Int32))), (2, .int v2), (1, .int v1), (0, .ref (ad c0))]) (kx := 0) hC dX2_countUnits_124 rfl rfl (by decide) rfl ?_
          refine hr_goto (tgt := 88) hC dX2_countUnits_127 (by decide) ?_
          refine hr_sub (lv' := [(3, .int (x3 + (1 : Int32))), (2, .int v2), (1, .int v1), (0, .ref (ad c0))]) [0, 1, 2, 3] rfl ?_
          exact ih _ _
  rw [fX2_countUnits]
  refine hr_iconst (v := 0) hC dX2_countUnits_0 (by decide) ?_
  refine hr_istore_n (lv' := [(1, .int (0 : Int32)), (0, .ref (ad c0))]) hC dX2_countUnits_1 rfl (by decide) rfl ?_
  refine hr_iconst (v := 0) hC dX2_countUnits_2 (by decide) ?_
  refine hr_istore_n (lv' := [(2, .int (0 : Int32)), (1, .int (0 : Int32)), (0, .ref (ad c0))]) hC dX2_countUnits_3 rfl (by decide) rfl ?_
  refine hr_iconst (v := 0) hC dX2_countUnits_4 (by decide) ?_
  refine hr_istore_n (lv' := [(3, .int (0 : Int32)), (2, .int (0 : Int32)), (1, .int (0 : Int32)), (0, .ref (ad c0))]) hC dX2_countUnits_5 rfl (by decide) rfl ?_
  refine hr_sub (lv' := [(3, .int (0 : Int32)), (2, .int (0 : Int32)), (1, .int (0 : Int32)), (0, .ref (ad c0))]) [0, 1, 2, 3] rfl ?_
  refine L6 _ (fun x3_6 x2_6 x1_6 m6 => ?_) _ _ _ _ _
  refine hr_iconst (v := 0) hC dX2_countUnits_86 (by decide) ?_
  refine hr_istore_n (lv' := [(3, .int (0 : Int32)), (2, .int x2_6), (1, .int x1_6), (0, .ref (ad c0))]) hC dX2_countUnits_87 rfl (by decide) rfl ?_
  refine hr_sub (lv' := [(3, .int (0 : Int32)), (2, .int x2_6), (1, .int x1_6), (0, .ref (ad c0))]) [0, 1, 2, 3] rfl ?_
  refine L88 _ _ _ (fun x3_88 m88 => ?_) _ _ _
  exact hr_vret hC hr dX2_countUnits_130
theorem hmX5_read_12 : Cond.fieldLink RX5 12 "HeatBills" "now" "LHeatBills$House;" ∈ wsX5_read := List.mem_of_getElem? (i := 1) rfl
theorem hmX5_read_63 : Cond.fieldLink RX5 63 "HeatBills$House" "openYear" "LHeatBills$Year;" ∈ wsX5_read := List.mem_of_getElem? (i := 2) rfl
theorem hmX5_read_92 : Cond.fieldLink RX5 92 "HeatBills$House" "beginReadings" "[I" ∈ wsX5_read := List.mem_of_getElem? (i := 3) rfl
theorem hmX5_read_95 : Cond.fieldLink RX5 95 "HeatBills$House" "endReadings" "[I" ∈ wsX5_read := List.mem_of_getElem? (i := 4) rfl
theorem hmX5_read_26 : Cond.fieldLink RX5 26 "HeatBills" "history" "LHeatBills$History;" ∈ wsX5_read := List.mem_of_getElem? (i := 5) rfl
theorem hmX5_read_101 : Cond.fieldLink RX5 101 "HeatBills$Year" "deviceUnits" "[I" ∈ wsX5_read := List.mem_of_getElem? (i := 6) rfl
theorem hiX5_read_X5 : ∀ w ∈ wsX50, w ∈ wsX5_read := fun _ h => List.mem_cons_of_mem _ (List.mem_append_left _ (List.mem_append_left _ (List.mem_append_left _ (List.mem_append_right _ h))))
theorem hiX5_read_X2 : ∀ w ∈ wsX20, w ∈ wsX5_read := fun _ h => List.mem_cons_of_mem _ (List.mem_append_left _ (List.mem_append_left _ (List.mem_append_right _ h)))
theorem hiX5_read_X4 : ∀ w ∈ wsX40, w ∈ wsX5_read := fun _ h => List.mem_cons_of_mem _ (List.mem_append_left _ (List.mem_append_right _ h))
def fX5_read (n : Nat) (p1 : Int32) (p2 : Int32) (μ : hb_m) : Option (Int32 × hb_m) :=
bi (fX4_hasDevice n (0 + 8) p1 μ) (fun r8 m8 =>
if r8 = 0 then
(some ((-1 : Int32), m8))
else
(if p2 < 0 then
(some ((-2 : Int32), m8))
else
(if p2 ≤ (9999 : Int32) then
(if ib p1 20 then
if (rd m8 (0 + 4) p1.toNatClampNeg) ≤ p2 then
(if ib p1 20 then
if p2 = (rd m8 (0 + 5) p1.toNatClampNeg) then
(some ((-5 : Int32), m8))
else
(bv (fX1_remember n 0 m8) (fun m70 =>
if ib p1 20 then
bv (fX2_countUnits n 0 (wr m70 (0 + 5) p1.toNatClampNeg p2)) (fun m87 =>
if ib p1 20 then
some ((rd m87 ((0 + 8) + 3) p1.toNatClampNeg), m87)
else none)
else none))
else none)
else
(some ((-4 : Int32), m8))
else none)
else
(some ((-2 : Int32), m8)))))
abbrev rmX5_read : Room := { frames := 4, cells := 0, slots := 0, locals := 94 }
set_option maxRecDepth 100000 in
set_option maxHeartbeats 4000000 in
theorem tX5_read {l : Launch} {D : va_G} {ad : Nat → Nat} {dA : Nat → ClassId} {t1 t2 : Nat} (hI : hb_I 241 ad) (n : Nat) (p1 : Int32) (p2 : Int32) (μ : hb_m) : hb_M (hb_Qi vwCl kdX 241 ad D dA) l yX5_read wsX5_read rmX5_read vwCl kdX 241 ad D dA (tbX t1 t2) nwX [.ref (ad 228), .int p1, .int p2] μ (fX5_read n p1 p2 μ) := by
  refine hb_start (cc := cX5_read) (maxL := 3) (ret := (some .int)) (by decide) rfl hI (Nat.le_of_ble_eq_true rfl) [(0, .ref (ad 228)), (1, .int p1), (2, .int p2)] rfl ?_
  intro p e s m args below meth c hC hr
  rw [fX5_read]
  refine hr_aload_n hC dX5_read_0 rfl 0 rfl ?_
  refine hr_getR hC hiX5_read_X5 rfl kx228 0 (by decide) hmX5_read_12 rfl dX5_read_1 ?_
  refine hr_getR hC hiX5_read_X2 rfl (kxH hx_H0) 9 (by decide) hmX5_read_63 rfl dX5_read_4 ?_
  refine hr_iload_n hC dX5_read_7 rfl 1 rfl ?_
  refine hr_callVi (As := [.int p1]) (k := (0 + 8)) hC rfl (tX4_hasDevice (t1 := t1) (t2 := t2) hI n (0 + 8) (hx_Yo hx_H0) p1 μ) (cwV 1 hC.1.2.2.2.2 gX5_read_X4_hasDevice rfl rfl rfl (by decide +kernel) ⟨Nat.le_of_ble_eq_true rfl, Nat.le_of_ble_eq_true rfl⟩) (kxY (hx_Yo hx_H0)) rfl rfl rfl (Nat.le_of_ble_eq_true rfl) dX5_read_8 (fun r8 m8 => ?_)
  refine hr_if_ne (tgt := 16) hC dX5_read_11 (by decide) (fun _ => ?_) (fun _ => ?_)
  · refine hr_iconst (v := -1) hC dX5_read_14 (by decide) ?_
    exact hr_ireti hC hr dX5_read_15
  · refine hr_iload_n hC dX5_read_16 rfl 2 rfl ?_
    refine hr_if_lt (tgt := 27) hC dX5_read_17 (by decide) (fun _ => ?_) (fun _ => ?_)
    · refine hr_bipush (v := -2) hC dX5_read_27 (by decide) ?_
      exact hr_ireti hC hr dX5_read_29
    · refine hr_iload_n hC dX5_read_20 rfl 2 rfl ?_
      refine hr_sipush (v := 9999) hC dX5_read_21 (by decide) ?_
      refine hr_icmp_le (tgt := 30) hC dX5_read_24 (by decide) (fun _ => ?_) (fun _ => ?_)
      · refine hr_iload_n hC dX5_read_30 rfl 2 rfl ?_
        refine hr_aload_n hC dX5_read_31 rfl 0 rfl ?_
        refine hr_getR hC hiX5_read_X5 rfl kx228 0 (by decide) hmX5_read_12 rfl dX5_read_32 ?_
        refine hr_getR hC hiX5_read_X2 rfl (kxH hx_H0) 4 (by decide) hmX5_read_92 rfl dX5_read_35 ?_
        refine hr_iload_n hC dX5_read_38 rfl 1 rfl ?_
        refine hr_iald hC (kxH4 hx_H0) dX5_read_39 ?_
        refine hr_icmp_ge (tgt := 46) hC dX5_read_40 (by decide) (fun _ => ?_) (fun _ => ?_)
        · refine hr_iload_n hC dX5_read_46 rfl 2 rfl ?_
          refine hr_aload_n hC dX5_read_47 rfl 0 rfl ?_
          refine hr_getR hC hiX5_read_X5 rfl kx228 0 (by decide) hmX5_read_12 rfl dX5_read_48 ?_
          refine hr_getR hC hiX5_read_X2 rfl (kxH hx_H0) 5 (by decide) hmX5_read_95 rfl dX5_read_51 ?_
          refine hr_iload_n hC dX5_read_54 rfl 1 rfl ?_
          refine hr_iald hC (kxH5 hx_H0) dX5_read_55 ?_
          refine hr_icmp_ne (tgt := 62) hC dX5_read_56 (by decide) (fun _ => ?_) (fun _ => ?_)
          · refine hr_bipush (v := -5) hC dX5_read_59 (by decide) ?_
            exact hr_ireti hC hr dX5_read_61
          · refine hr_aload_n hC dX5_read_62 rfl 0 rfl ?_
            refine hr_getR hC hiX5_read_X5 rfl kx228 3 (by decide) hmX5_read_26 rfl dX5_read_63 ?_
            refine hr_aload_n hC dX5_read_66 rfl 0 rfl ?_
            refine hr_getR hC hiX5_read_X5 rfl kx228 0 (by decide) hmX5_read_12 rfl dX5_read_67 ?_
            refine hr_callVv (As := [.ref (ad 0)]) (k := 229) hC rfl (tX1_remember (t1 := t1) (t2 := t2) hI n 0 hx_H0 m8) (cwV 1 hC.1.2.2.2.2 gX5_read_X1_remember rfl rfl rfl (by decide +kernel) ⟨Nat.le_of_ble_eq_true rfl, Nat.le_of_ble_eq_true rfl⟩) kx229 rfl rfl rfl (Nat.le_of_ble_eq_true rfl) dX5_read_70 (fun m70 => ?_)
            refine hr_aload_n hC dX5_read_73 rfl 0 rfl ?_
            refine hr_getR hC hiX5_read_X5 rfl kx228 0 (by decide) hmX5_read_12 rfl dX5_read_74 ?_
            refine hr_getR hC hiX5_read_X2 rfl (kxH hx_H0) 5 (by decide) hmX5_read_95 rfl dX5_read_77 ?_
            refine hr_iload_n hC dX5_read_80 rfl 1 rfl ?_
            refine hr_iload_n hC dX5_read_81 rfl 2 rfl ?_
            refine hr_iast hC (kxH5 hx_H0) dX5_read_82 ?_
            refine hr_aload_n hC dX5_read_83 rfl 0 rfl ?_
            refine hr_getR hC hiX5_read_X5 rfl kx228 0 (by decide) hmX5_read_12 rfl dX5_read_84 ?_
            refine hr_callVv (As := []) (k := 0) hC rfl (tX2_countUnits (t1 := t1) (t2 := t2) hI n 0 hx_H0 (wr m70 (0 + 5) p1.toNatClampNeg p2)) (cwV 0 hC.1.2.2.2.2 gX5_read_X2_countUnits rfl rfl rfl (by decide +kernel) ⟨Nat.le_of_ble_eq_true rfl, Nat.le_of_ble_eq_true rfl⟩) (kxH hx_H0) rfl rfl rfl (Nat.le_of_ble_eq_true rfl) dX5_read_87 (fun m87 => ?_)
            refine hr_aload_n hC dX5_read_90 rfl 0 rfl ?_
            refine hr_getR hC hiX5_read_X5 rfl kx228 0 (by decide) hmX5_read_12 rfl dX5_read_91 ?_
            refine hr_getR hC hiX5_read_X2 rfl (kxH hx_H0) 9 (by decide) hmX5_read_63 rfl dX5_read_94 ?_
            refine hr_getR hC hiX5_read_X4 rfl (kxY (hx_Yo hx_H0)) 5 (by decide) hmX5_read_101 rfl dX5_read_97 ?_
            refine hr_iload_n hC dX5_read_100 rfl 1 rfl ?_
            refine hr_iald hC (kxY3 (hx_Yo hx_H0)) dX5_read_101 ?_
            exact hr_ireti hC hr dX5_read_102
        · refine hr_bipush (v := -4) hC dX5_read_43 (by decide) ?_
          exact hr_ireti hC hr dX5_read_45
      · refine hr_bipush (v := -2) hC dX5_read_27 (by decide) ?_
        exact hr_ireti hC hr dX5_read_29
theorem hmX2_faultyCount_44 : Cond.fieldLink RX2 44 "HeatBills$House" "openYear" "LHeatBills$Year;" ∈ wsX2_faultyCount := List.mem_of_getElem? (i := 1) rfl
theorem hmX2_faultyCount_71 : Cond.fieldLink RX2 71 "HeatBills$Year" "deviceCount" "I" ∈ wsX2_faultyCount := List.mem_of_getElem? (i := 2) rfl
theorem hmX2_faultyCount_31 : Cond.fieldLink RX2 31 "HeatBills$House" "faulty" "[Z" ∈ wsX2_faultyCount := List.mem_of_getElem? (i := 3) rfl
theorem hiX2_faultyCount_X2 : ∀ w ∈ wsX20, w ∈ wsX2_faultyCount := fun _ h => List.mem_cons_of_mem _ (List.mem_append_left _ (List.mem_append_right _ h))
theorem hiX2_faultyCount_X4 : ∀ w ∈ wsX40, w ∈ wsX2_faultyCount := fun _ h => List.mem_cons_of_mem _ (List.mem_append_right _ h)
def lX2_faultyCount_4 (n : Nat) (c0 : Nat) (k : Int32 → Int32 → hb_m → Option (Int32 × hb_m)) : Nat → Int32 → Int32 → hb_m → Option (Int32 × hb_m)
  | 0, _, _, _ => none
  | f + 1, x2, x1, μ => if (rd μ (c0 + 8) 2) ≤ x2 then
(k x2 x1 μ)
else
(if ib x2 20 then
if (rd μ (c0 + 6) x2.toNatClampNeg) = 0 then
(lX2_faultyCount_4 n c0 k f (x2 + (1 : Int32)) x1 μ)
else
(lX2_faultyCount_4 n c0 k f (x2 + (1 : Int32)) (x1 + (1 : Int32)) μ)
else none)
def fX2_faultyCount (n : Nat) (c0 : Nat) (μ : hb_m) : Option (Int32 × hb_m) :=
lX2_faultyCount_4 n c0 (fun x2_4 x1_4 m4 =>
some (x1_4, m4)) n (0 : Int32) (0 : Int32) μ
abbrev rmX2_faultyCount : Room := { frames := 0, cells := 0, slots := 0, locals := 0 }
set_option maxRecDepth 100000 in
set_option maxHeartbeats 4000000 in
theorem tX2_faultyCount {l : Launch} {D : va_G} {ad : Nat → Nat} {dA : Nat → ClassId} {t1 t2 : Nat} (hI : hb_I 241 ad) (n : Nat) (c0 : Nat) (h0 : hx_H c0) (μ : hb_m) : hb_M (hb_Qi vwCl kdX 241 ad D dA) l yX2_faultyCount wsX2_faultyCount rmX2_faultyCount vwCl kdX 241 ad D dA (tbX t1 t2) nwX [.ref (ad c0)] μ (fX2_faultyCount n c0 μ) := by
  refine hb_start (cc := cX2_faultyCount) (maxL := 3) (ret := (some .int)) (by decide) rfl hI (Nat.le_of_ble_eq_true rfl) [(0, .ref (ad c0))] rfl ?_
  intro p e s m args below meth c hC hr
  have L4 : ∀ (k : Int32 → Int32 → hb_m → Option (Int32 × hb_m)) (hk : ∀ (x2 : Int32) (x1 : Int32) (μ : hb_m), hb_V p l e rmX2_faultyCount s m args below meth c 3 vwCl kdX 241 ad D dA (hb_Qi vwCl kdX 241 ad D dA) μ 33 [(2, .int x2), (1, .int x1), (0, .ref (ad c0))] [] (k x2 x1 μ)) (f : Nat) (x2 : Int32) (x1 : Int32) (μ : hb_m), hb_V p l e rmX2_faultyCount s m args below meth c 3 vwCl kdX 241 ad D dA (hb_Qi vwCl kdX 241 ad D dA) μ 4 [(2, .int x2), (1, .int x1), (0, .ref (ad c0))] [] (lX2_faultyCount_4 n c0 k f x2 x1 μ) := by
    intro k hk f
    induction f with
    | zero => intro x2 x1 μ; rw [lX2_faultyCount_4]; exact hr_none
    | succ f ih =>
      intro x2 x1 μ
      rw [lX2_faultyCount_4]
      refine hr_iload_n hC dX2_faultyCount_4 rfl 0 rfl ?_
      refine hr_aload_n hC dX2_faultyCount_5 rfl 2 rfl ?_
      refine hr_getR hC hiX2_faultyCount_X2 rfl (kxH h0) 9 (by decide) hmX2_faultyCount_44 rfl dX2_faultyCount_6 ?_
      refine hr_getI hC hiX2_faultyCount_X4 rfl (kxY (hx_Yo h0)) 2 (by decide) hmX2_faultyCount_71 rfl dX2_faultyCount_9 ?_
      refine hr_icmp_ge (tgt := 33) hC dX2_faultyCount_12 (by decide) (fun _ => ?_) (fun _ => ?_)
      · refine hr_sub (lv' := [(2, .int x2), (1, .int x1), (0, .ref (ad c0))]) [0, 1, 2] rfl ?_
        exact hk _ _ _
      · refine hr_aload_n hC dX2_faultyCount_15 rfl 2 rfl ?_
        refine hr_getR hC hiX2_faultyCount_X2 rfl (kxH h0) 6 (by decide) hmX2_faultyCount_31 rfl dX2_faultyCount_16 ?_
        refine hr_iload_n hC dX2_faultyCount_19 rfl 0 rfl ?_
        refine hr_zald hC (kxH6 h0) dX2_faultyCount_20 ?_
        refine hr_if_eq (tgt := 27) hC dX2_faultyCount_21 (by decide) (fun _ => ?_) (fun _ => ?_)
        · refine hr_iinc (v := (x2 + (1 : Int32))) (lv' := [(2, .int (x2 + (1 : Int32))), (1, .int x1), (0, .ref (ad c0))]) (kx := 0) hC dX2_faultyCount_27 rfl rfl (by decide) rfl ?_
          refine hr_goto (tgt := 4) hC dX2_faultyCount_30 (by decide) ?_
          refine hr_sub (lv' := [(2, .int (x2 + (1 : Int32))), (1, .int x1), (0, .ref (ad c0))]) [0, 1, 2] rfl ?_
          exact ih _ _ _
        · refine hr_iinc (v := (x1 + (1 : Int32))) (lv' := [(1, .int (x1 + (1 : Int32))), (2, .int x2), (0, .ref (ad c0))]) (kx := 1) hC dX2_faultyCount_24 rfl rfl (by decide) rfl ?_
          refine hr_iinc (v := (x2 + (1 : Int32))) (lv' := [(2, .int (x2 + (1 : Int32))), (1, .int (x1 + (1 : Int32))), (0, .ref (ad c0))]) (kx := 1) hC dX2_faultyCount_27 rfl rfl (by decide) rfl ?_
          refine hr_goto (tgt := 4) hC dX2_faultyCount_30 (by decide) ?_
          refine hr_sub (lv' := [(2, .int (x2 + (1 : Int32))), (1, .int (x1 + (1 : Int32))), (0, .ref (ad c0))]) [0, 1, 2] rfl ?_
          exact ih _ _ _
  rw [fX2_faultyCount]
  refine hr_iconst (v := 0) hC dX2_faultyCount_0 (by decide) ?_
  refine hr_istore_n (lv' := [(1, .int (0 : Int32)), (0, .ref (ad c0))]) hC dX2_faultyCount_1 rfl (by decide) rfl ?_
  refine hr_iconst (v := 0) hC dX2_faultyCount_2 (by decide) ?_
  refine hr_istore_n (lv' := [(2, .int (0 : Int32)), (1, .int (0 : Int32)), (0, .ref (ad c0))]) hC dX2_faultyCount_3 rfl (by decide) rfl ?_
  refine hr_sub (lv' := [(2, .int (0 : Int32)), (1, .int (0 : Int32)), (0, .ref (ad c0))]) [0, 1, 2] rfl ?_
  refine L4 _ (fun x2_4 x1_4 m4 => ?_) _ _ _ _
  refine hr_iload_n hC dX2_faultyCount_33 rfl 1 rfl ?_
  exact hr_ireti hC hr dX2_faultyCount_34
theorem hmX5_mark_12 : Cond.fieldLink RX5 12 "HeatBills" "now" "LHeatBills$House;" ∈ wsX5_mark := List.mem_of_getElem? (i := 1) rfl
theorem hmX5_mark_63 : Cond.fieldLink RX5 63 "HeatBills$House" "openYear" "LHeatBills$Year;" ∈ wsX5_mark := List.mem_of_getElem? (i := 2) rfl
theorem hmX5_mark_104 : Cond.fieldLink RX5 104 "HeatBills$House" "faulty" "[Z" ∈ wsX5_mark := List.mem_of_getElem? (i := 3) rfl
theorem hmX5_mark_26 : Cond.fieldLink RX5 26 "HeatBills" "history" "LHeatBills$History;" ∈ wsX5_mark := List.mem_of_getElem? (i := 4) rfl
theorem hiX5_mark_X5 : ∀ w ∈ wsX50, w ∈ wsX5_mark := fun _ h => List.mem_cons_of_mem _ (List.mem_append_left _ (List.mem_append_left _ (List.mem_append_left _ (List.mem_append_right _ h))))
theorem hiX5_mark_X2 : ∀ w ∈ wsX20, w ∈ wsX5_mark := fun _ h => List.mem_cons_of_mem _ (List.mem_append_left _ (List.mem_append_left _ (List.mem_append_right _ h)))
def fX5_mark (n : Nat) (p1 : Int32) (p2 : Int32) (μ : hb_m) : Option (Int32 × hb_m) :=
bi (fX4_hasDevice n (0 + 8) p1 μ) (fun r8 m8 =>
if r8 = 0 then
(some ((-1 : Int32), m8))
else
(if ib p1 20 then
if (rd m8 (0 + 6) p1.toNatClampNeg) = p2 then
(some ((-5 : Int32), m8))
else
(bv (fX1_remember n 0 m8) (fun m40 =>
if ib p1 20 then
bi (fX2_faultyCount n 0 (wr m40 (0 + 6) p1.toNatClampNeg (vp_nar .boolean p2))) (fun r57 m57 =>
some (r57, m57))
else none))
else none))
abbrev rmX5_mark : Room := { frames := 4, cells := 0, slots := 0, locals := 94 }
set_option maxRecDepth 100000 in
set_option maxHeartbeats 4000000 in
theorem tX5_mark {l : Launch} {D : va_G} {ad : Nat → Nat} {dA : Nat → ClassId} {t1 t2 : Nat} (hI : hb_I 241 ad) (n : Nat) (p1 : Int32) (p2 : Int32) (μ : hb_m) : hb_M (hb_Qi vwCl kdX 241 ad D dA) l yX5_mark wsX5_mark rmX5_mark vwCl kdX 241 ad D dA (tbX t1 t2) nwX [.ref (ad 228), .int p1, .int p2] μ (fX5_mark n p1 p2 μ) := by
  refine hb_start (cc := cX5_mark) (maxL := 3) (ret := (some .int)) (by decide) rfl hI (Nat.le_of_ble_eq_true rfl) [(0, .ref (ad 228)), (1, .int p1), (2, .int p2)] rfl ?_
  intro p e s m args below meth c hC hr
  rw [fX5_mark]
  refine hr_aload_n hC dX5_mark_0 rfl 0 rfl ?_
  refine hr_getR hC hiX5_mark_X5 rfl kx228 0 (by decide) hmX5_mark_12 rfl dX5_mark_1 ?_
  refine hr_getR hC hiX5_mark_X2 rfl (kxH hx_H0) 9 (by decide) hmX5_mark_63 rfl dX5_mark_4 ?_
  refine hr_iload_n hC dX5_mark_7 rfl 1 rfl ?_
  refine hr_callVi (As := [.int p1]) (k := (0 + 8)) hC rfl (tX4_hasDevice (t1 := t1) (t2 := t2) hI n (0 + 8) (hx_Yo hx_H0) p1 μ) (cwV 1 hC.1.2.2.2.2 gX5_mark_X4_hasDevice rfl rfl rfl (by decide +kernel) ⟨Nat.le_of_ble_eq_true rfl, Nat.le_of_ble_eq_true rfl⟩) (kxY (hx_Yo hx_H0)) rfl rfl rfl (Nat.le_of_ble_eq_true rfl) dX5_mark_8 (fun r8 m8 => ?_)
  refine hr_if_ne (tgt := 16) hC dX5_mark_11 (by decide) (fun _ => ?_) (fun _ => ?_)
  · refine hr_iconst (v := -1) hC dX5_mark_14 (by decide) ?_
    exact hr_ireti hC hr dX5_mark_15
  · refine hr_aload_n hC dX5_mark_16 rfl 0 rfl ?_
    refine hr_getR hC hiX5_mark_X5 rfl kx228 0 (by decide) hmX5_mark_12 rfl dX5_mark_17 ?_
    refine hr_getR hC hiX5_mark_X2 rfl (kxH hx_H0) 6 (by decide) hmX5_mark_104 rfl dX5_mark_20 ?_
    refine hr_iload_n hC dX5_mark_23 rfl 1 rfl ?_
    refine hr_zald hC (kxH6 hx_H0) dX5_mark_24 ?_
    refine hr_iload_n hC dX5_mark_25 rfl 2 rfl ?_
    refine hr_icmp_ne (tgt := 32) hC dX5_mark_26 (by decide) (fun _ => ?_) (fun _ => ?_)
    · refine hr_bipush (v := -5) hC dX5_mark_29 (by decide) ?_
      exact hr_ireti hC hr dX5_mark_31
    · refine hr_aload_n hC dX5_mark_32 rfl 0 rfl ?_
      refine hr_getR hC hiX5_mark_X5 rfl kx228 3 (by decide) hmX5_mark_26 rfl dX5_mark_33 ?_
      refine hr_aload_n hC dX5_mark_36 rfl 0 rfl ?_
      refine hr_getR hC hiX5_mark_X5 rfl kx228 0 (by decide) hmX5_mark_12 rfl dX5_mark_37 ?_
      refine hr_callVv (As := [.ref (ad 0)]) (k := 229) hC rfl (tX1_remember (t1 := t1) (t2 := t2) hI n 0 hx_H0 m8) (cwV 1 hC.1.2.2.2.2 gX5_mark_X1_remember rfl rfl rfl (by decide +kernel) ⟨Nat.le_of_ble_eq_true rfl, Nat.le_of_ble_eq_true rfl⟩) kx229 rfl rfl rfl (Nat.le_of_ble_eq_true rfl) dX5_mark_40 (fun m40 => ?_)
      refine hr_aload_n hC dX5_mark_43 rfl 0 rfl ?_
      refine hr_getR hC hiX5_mark_X5 rfl kx228 0 (by decide) hmX5_mark_12 rfl dX5_mark_44 ?_
      refine hr_getR hC hiX5_mark_X2 rfl (kxH hx_H0) 6 (by decide) hmX5_mark_104 rfl dX5_mark_47 ?_
      refine hr_iload_n hC dX5_mark_50 rfl 1 rfl ?_
      refine hr_iload_n hC dX5_mark_51 rfl 2 rfl ?_
      refine hr_zast hC (kxH6 hx_H0) dX5_mark_52 ?_
      refine hr_aload_n hC dX5_mark_53 rfl 0 rfl ?_
      refine hr_getR hC hiX5_mark_X5 rfl kx228 0 (by decide) hmX5_mark_12 rfl dX5_mark_54 ?_
      refine hr_callVi (As := []) (k := 0) hC rfl (tX2_faultyCount (t1 := t1) (t2 := t2) hI n 0 hx_H0 (wr m40 (0 + 6) p1.toNatClampNeg (vp_nar .boolean p2))) (cwV 0 hC.1.2.2.2.2 gX5_mark_X2_faultyCount rfl rfl rfl (by decide +kernel) ⟨Nat.le_of_ble_eq_true rfl, Nat.le_of_ble_eq_true rfl⟩) (kxH hx_H0) rfl rfl rfl (Nat.le_of_ble_eq_true rfl) dX5_mark_57 (fun r57 m57 => ?_)
      exact hr_ireti hC hr dX5_mark_60
theorem hmX3_isAtDigit_19 : Cond.fieldLink RX3 19 "HeatBills$ReadingsText" "at" "I" ∈ wsX3_isAtDigit := List.mem_of_getElem? (i := 1) rfl
theorem hmX3_isAtDigit_15 : Cond.fieldLink RX3 15 "HeatBills$ReadingsText" "length" "I" ∈ wsX3_isAtDigit := List.mem_of_getElem? (i := 2) rfl
theorem hmX3_isAtDigit_9 : Cond.fieldLink RX3 9 "HeatBills$ReadingsText" "characters" "[C" ∈ wsX3_isAtDigit := List.mem_of_getElem? (i := 3) rfl
theorem hiX3_isAtDigit_X3 : ∀ w ∈ wsX30, w ∈ wsX3_isAtDigit := fun _ h => List.mem_cons_of_mem _ (List.mem_append_right _ h)
def fX3_isAtDigit (n : Nat) (μ : hb_m) : Option (Int32 × hb_m) :=
if (rd μ 231 1) ≤ (rd μ 231 2) then
(some ((0 : Int32), μ))
else
(if ib (rd μ 231 2) 60 then
if (rd μ 232 (rd μ 231 2).toNatClampNeg) < (48 : Int32) then
(some ((0 : Int32), μ))
else
(if ib (rd μ 231 2) 60 then
if (57 : Int32) < (rd μ 232 (rd μ 231 2).toNatClampNeg) then
(some ((0 : Int32), μ))
else
(some ((1 : Int32), μ))
else none)
else none)
abbrev rmX3_isAtDigit : Room := { frames := 0, cells := 0, slots := 0, locals := 0 }
set_option maxRecDepth 100000 in
set_option maxHeartbeats 4000000 in
theorem tX3_isAtDigit {l : Launch} {D : va_G} {ad : Nat → Nat} {dA : Nat → ClassId} {t1 t2 : Nat} (hI : hb_I 241 ad) (n : Nat) (μ : hb_m) : hb_M (hb_Qi vwCl kdX 241 ad D dA) l yX3_isAtDigit wsX3_isAtDigit rmX3_isAtDigit vwCl kdX 241 ad D dA (tbX t1 t2) nwX [.ref (ad 231)] μ (fX3_isAtDigit n μ) := by
  refine hb_start (cc := cX3_isAtDigit) (maxL := 1) (ret := (some .boolean)) (by decide) rfl hI (Nat.le_of_ble_eq_true rfl) [(0, .ref (ad 231))] rfl ?_
  intro p e s m args below meth c hC hr
  rw [fX3_isAtDigit]
  refine hr_aload_n hC dX3_isAtDigit_0 rfl 0 rfl ?_
  refine hr_getI hC hiX3_isAtDigit_X3 rfl kx231 2 (by decide) hmX3_isAtDigit_19 rfl dX3_isAtDigit_1 ?_
  refine hr_aload_n hC dX3_isAtDigit_4 rfl 0 rfl ?_
  refine hr_getI hC hiX3_isAtDigit_X3 rfl kx231 1 (by decide) hmX3_isAtDigit_15 rfl dX3_isAtDigit_5 ?_
  refine hr_icmp_ge (tgt := 43) hC dX3_isAtDigit_8 (by decide) (fun _ => ?_) (fun _ => ?_)
  · refine hr_iconst (v := 0) hC dX3_isAtDigit_43 (by decide) ?_
    exact hr_iretz hC hr dX3_isAtDigit_44 rfl
  · refine hr_aload_n hC dX3_isAtDigit_11 rfl 0 rfl ?_
    refine hr_getR hC hiX3_isAtDigit_X3 rfl kx231 0 (by decide) hmX3_isAtDigit_9 rfl dX3_isAtDigit_12 ?_
    refine hr_aload_n hC dX3_isAtDigit_15 rfl 0 rfl ?_
    refine hr_getI hC hiX3_isAtDigit_X3 rfl kx231 2 (by decide) hmX3_isAtDigit_19 rfl dX3_isAtDigit_16 ?_
    refine hr_cald hC kx232 dX3_isAtDigit_19 ?_
    refine hr_bipush (v := 48) hC dX3_isAtDigit_20 (by decide) ?_
    refine hr_icmp_lt (tgt := 43) hC dX3_isAtDigit_22 (by decide) (fun _ => ?_) (fun _ => ?_)
    · refine hr_iconst (v := 0) hC dX3_isAtDigit_43 (by decide) ?_
      exact hr_iretz hC hr dX3_isAtDigit_44 rfl
    · refine hr_aload_n hC dX3_isAtDigit_25 rfl 0 rfl ?_
      refine hr_getR hC hiX3_isAtDigit_X3 rfl kx231 0 (by decide) hmX3_isAtDigit_9 rfl dX3_isAtDigit_26 ?_
      refine hr_aload_n hC dX3_isAtDigit_29 rfl 0 rfl ?_
      refine hr_getI hC hiX3_isAtDigit_X3 rfl kx231 2 (by decide) hmX3_isAtDigit_19 rfl dX3_isAtDigit_30 ?_
      refine hr_cald hC kx232 dX3_isAtDigit_33 ?_
      refine hr_bipush (v := 57) hC dX3_isAtDigit_34 (by decide) ?_
      refine hr_icmp_gt (tgt := 43) hC dX3_isAtDigit_36 (by decide) (fun _ => ?_) (fun _ => ?_)
      · refine hr_iconst (v := 0) hC dX3_isAtDigit_43 (by decide) ?_
        exact hr_iretz hC hr dX3_isAtDigit_44 rfl
      · refine hr_iconst (v := 1) hC dX3_isAtDigit_39 (by decide) ?_
        refine hr_goto (tgt := 44) hC dX3_isAtDigit_40 (by decide) ?_
        exact hr_iretz hC hr dX3_isAtDigit_44 rfl
theorem hmX3_digit_9 : Cond.fieldLink RX3 9 "HeatBills$ReadingsText" "characters" "[C" ∈ wsX3_digit := List.mem_of_getElem? (i := 1) rfl
theorem hmX3_digit_19 : Cond.fieldLink RX3 19 "HeatBills$ReadingsText" "at" "I" ∈ wsX3_digit := List.mem_of_getElem? (i := 2) rfl
theorem hiX3_digit_X3 : ∀ w ∈ wsX30, w ∈ wsX3_digit := fun _ h => List.mem_cons_of_mem _ (List.mem_append_right _ h)
def fX3_digit (n : Nat) (μ : hb_m) : Option (Int32 × hb_m) :=
if ib (rd μ 231 2) 60 then
some (((rd μ 232 (rd μ 231 2).toNatClampNeg) - (48 : Int32)), μ)
else none
abbrev rmX3_digit : Room := { frames := 0, cells := 0, slots := 0, locals := 0 }
set_option maxRecDepth 100000 in
set_option maxHeartbeats 4000000 in
theorem tX3_digit {l : Launch} {D : va_G} {ad : Nat → Nat} {dA : Nat → ClassId} {t1 t2 : Nat} (hI : hb_I 241 ad) (n : Nat) (μ : hb_m) : hb_M (hb_Qi vwCl kdX 241 ad D dA) l yX3_digit wsX3_digit rmX3_digit vwCl kdX 241 ad D dA (tbX t1 t2) nwX [.ref (ad 231)] μ (fX3_digit n μ) := by
  refine hb_start (cc := cX3_digit) (maxL := 1) (ret := (some .int)) (by decide) rfl hI (Nat.le_of_ble_eq_true rfl) [(0, .ref (ad 231))] rfl ?_
  intro p e s m args below meth c hC hr
  rw [fX3_digit]
  refine hr_aload_n hC dX3_digit_0 rfl 0 rfl ?_
  refine hr_getR hC hiX3_digit_X3 rfl kx231 0 (by decide) hmX3_digit_9 rfl dX3_digit_1 ?_
  refine hr_aload_n hC dX3_digit_4 rfl 0 rfl ?_
  refine hr_getI hC hiX3_digit_X3 rfl kx231 2 (by decide) hmX3_digit_19 rfl dX3_digit_5 ?_
  refine hr_cald hC kx232 dX3_digit_8 ?_
  refine hr_bipush (v := 48) hC dX3_digit_9 (by decide) ?_
  refine hr_isub hC dX3_digit_11 ?_
  exact hr_ireti hC hr dX3_digit_12
theorem hmX3_isDigitFitting_22 : Cond.fieldLink RX3 22 "HeatBills$ReadingsText" "number" "I" ∈ wsX3_isDigitFitting := List.mem_of_getElem? (i := 1) rfl
theorem hiX3_isDigitFitting_X3 : ∀ w ∈ wsX30, w ∈ wsX3_isDigitFitting := fun _ h => List.mem_cons_of_mem _ (List.mem_append_right _ h)
def fX3_isDigitFitting (n : Nat) (p1 : Int32) (μ : hb_m) : Option (Int32 × hb_m) :=
bi (fX3_isAtDigit n μ) (fun r1 m1 =>
if r1 = 0 then
(some ((0 : Int32), m1))
else
(if (rd m1 231 3) ≤ 0 then
(some ((0 : Int32), m1))
else
(bi (fX3_digit n m1) (fun r22 m22 =>
if p1 < (((10 : Int32) * (rd m1 231 3)) + r22) then
(some ((0 : Int32), m22))
else
(some ((1 : Int32), m22))))))
abbrev rmX3_isDigitFitting : Room := { frames := 1, cells := 0, slots := 0, locals := 20 }
set_option maxRecDepth 100000 in
set_option maxHeartbeats 4000000 in
theorem tX3_isDigitFitting {l : Launch} {D : va_G} {ad : Nat → Nat} {dA : Nat → ClassId} {t1 t2 : Nat} (hI : hb_I 241 ad) (n : Nat) (p1 : Int32) (μ : hb_m) : hb_M (hb_Qi vwCl kdX 241 ad D dA) l yX3_isDigitFitting wsX3_isDigitFitting rmX3_isDigitFitting vwCl kdX 241 ad D dA (tbX t1 t2) nwX [.ref (ad 231), .int p1] μ (fX3_isDigitFitting n p1 μ) := by
  refine hb_start (cc := cX3_isDigitFitting) (maxL := 2) (ret := (some .boolean)) (by decide) rfl hI (Nat.le_of_ble_eq_true rfl) [(0, .ref (ad 231)), (1, .int p1)] rfl ?_
  intro p e s m args below meth c hC hr
  rw [fX3_isDigitFitting]
  refine hr_aload_n hC dX3_isDigitFitting_0 rfl 0 rfl ?_
  refine hr_callVi (As := []) (k := 231) hC rfl (tX3_isAtDigit (t1 := t1) (t2 := t2) hI n μ) (cwV 0 hC.1.2.2.2.2 gX3_isDigitFitting_X3_isAtDigit rfl rfl rfl (by decide +kernel) ⟨Nat.le_of_ble_eq_true rfl, Nat.le_of_ble_eq_true rfl⟩) kx231 rfl rfl rfl (Nat.le_of_ble_eq_true rfl) dX3_isDigitFitting_1 (fun r1 m1 => ?_)
  refine hr_if_eq (tgt := 34) hC dX3_isDigitFitting_4 (by decide) (fun _ => ?_) (fun _ => ?_)
  · refine hr_iconst (v := 0) hC dX3_isDigitFitting_34 (by decide) ?_
    exact hr_iretz hC hr dX3_isDigitFitting_35 rfl
  · refine hr_aload_n hC dX3_isDigitFitting_7 rfl 0 rfl ?_
    refine hr_getI hC hiX3_isDigitFitting_X3 rfl kx231 3 (by decide) hmX3_isDigitFitting_22 rfl dX3_isDigitFitting_8 ?_
    refine hr_if_le (tgt := 34) hC dX3_isDigitFitting_11 (by decide) (fun _ => ?_) (fun _ => ?_)
    · refine hr_iconst (v := 0) hC dX3_isDigitFitting_34 (by decide) ?_
      exact hr_iretz hC hr dX3_isDigitFitting_35 rfl
    · refine hr_bipush (v := 10) hC dX3_isDigitFitting_14 (by decide) ?_
      refine hr_aload_n hC dX3_isDigitFitting_16 rfl 0 rfl ?_
      refine hr_getI hC hiX3_isDigitFitting_X3 rfl kx231 3 (by decide) hmX3_isDigitFitting_22 rfl dX3_isDigitFitting_17 ?_
      refine hr_imul hC dX3_isDigitFitting_20 ?_
      refine hr_aload_n hC dX3_isDigitFitting_21 rfl 0 rfl ?_
      refine hr_callVi (As := []) (k := 231) hC rfl (tX3_digit (t1 := t1) (t2 := t2) hI n m1) (cwV 0 hC.1.2.2.2.2 gX3_isDigitFitting_X3_digit rfl rfl rfl (by decide +kernel) ⟨Nat.le_of_ble_eq_true rfl, Nat.le_of_ble_eq_true rfl⟩) kx231 rfl rfl rfl (Nat.le_of_ble_eq_true rfl) dX3_isDigitFitting_22 (fun r22 m22 => ?_)
      refine hr_iadd hC dX3_isDigitFitting_25 ?_
      refine hr_iload_n hC dX3_isDigitFitting_26 rfl 1 rfl ?_
      refine hr_icmp_gt (tgt := 34) hC dX3_isDigitFitting_27 (by decide) (fun _ => ?_) (fun _ => ?_)
      · refine hr_iconst (v := 0) hC dX3_isDigitFitting_34 (by decide) ?_
        exact hr_iretz hC hr dX3_isDigitFitting_35 rfl
      · refine hr_iconst (v := 1) hC dX3_isDigitFitting_30 (by decide) ?_
        refine hr_goto (tgt := 35) hC dX3_isDigitFitting_31 (by decide) ?_
        exact hr_iretz hC hr dX3_isDigitFitting_35 rfl
theorem hmX3_takeNumber_22 : Cond.fieldLink RX3 22 "HeatBills$ReadingsText" "number" "I" ∈ wsX3_takeNumber := List.mem_of_getElem? (i := 1) rfl
theorem hmX3_takeNumber_19 : Cond.fieldLink RX3 19 "HeatBills$ReadingsText" "at" "I" ∈ wsX3_takeNumber := List.mem_of_getElem? (i := 2) rfl
theorem hiX3_takeNumber_X3 : ∀ w ∈ wsX30, w ∈ wsX3_takeNumber := fun _ h => List.mem_cons_of_mem _ (List.mem_append_right _ h)
def lX3_takeNumber_29 (n : Nat) (p1 : Int32) (k : Int32 → hb_m → Option (Int32 × hb_m)) : Nat → Int32 → hb_m → Option (Int32 × hb_m)
  | 0, _, _ => none
  | f + 1, x2, μ => if (60 : Int32) ≤ x2 then
(k x2 μ)
else
(bi (fX3_isDigitFitting n p1 μ) (fun r37 m37 =>
if r37 = 0 then
(k x2 m37)
else
(bi (fX3_digit n m37) (fun r52 m52 =>
lX3_takeNumber_29 n p1 k f (x2 + (1 : Int32)) (wr (wr m52 231 3 (((10 : Int32) * (rd m37 231 3)) + r52)) 231 2 ((rd (wr m52 231 3 (((10 : Int32) * (rd m37 231 3)) + r52)) 231 2) + (1 : Int32)))))))
def fX3_takeNumber (n : Nat) (p1 : Int32) (μ : hb_m) : Option (Int32 × hb_m) :=
bi (fX3_isAtDigit n μ) (fun r1 m1 =>
if r1 = 0 then
(some ((0 : Int32), m1))
else
(bi (fX3_digit n m1) (fun r11 m11 =>
lX3_takeNumber_29 n p1 (fun x2_29 m29 =>
some ((1 : Int32), m29)) n (1 : Int32) (wr (wr m11 231 3 r11) 231 2 ((rd (wr m11 231 3 r11) 231 2) + (1 : Int32))))))
abbrev rmX3_takeNumber : Room := { frames := 2, cells := 0, slots := 0, locals := 41 }
set_option maxRecDepth 100000 in
set_option maxHeartbeats 4000000 in
theorem tX3_takeNumber {l : Launch} {D : va_G} {ad : Nat → Nat} {dA : Nat → ClassId} {t1 t2 : Nat} (hI : hb_I 241 ad) (n : Nat) (p1 : Int32) (μ : hb_m) : hb_M (hb_Qi vwCl kdX 241 ad D dA) l yX3_takeNumber wsX3_takeNumber rmX3_takeNumber vwCl kdX 241 ad D dA (tbX t1 t2) nwX [.ref (ad 231), .int p1] μ (fX3_takeNumber n p1 μ) := by
  refine hb_start (cc := cX3_takeNumber) (maxL := 3) (ret := (some .boolean)) (by decide) rfl hI (Nat.le_of_ble_eq_true rfl) [(0, .ref (ad 231)), (1, .int p1)] rfl ?_
  intro p e s m args below meth c hC hr
  have L29 : ∀ (k : Int32 → hb_m → Option (Int32 × hb_m)) (hk : ∀ (x2 : Int32) (μ : hb_m), hb_V p l e rmX3_takeNumber s m args below meth c 3 vwCl kdX 241 ad D dA (hb_Qi vwCl kdX 241 ad D dA) μ 75 [(2, .int x2), (0, .ref (ad 231)), (1, .int p1)] [] (k x2 μ)) (f : Nat) (x2 : Int32) (μ : hb_m), hb_V p l e rmX3_takeNumber s m args below meth c 3 vwCl kdX 241 ad D dA (hb_Qi vwCl kdX 241 ad D dA) μ 29 [(2, .int x2), (0, .ref (ad 231)), (1, .int p1)] [] (lX3_takeNumber_29 n p1 k f x2 μ) := by
    intro k hk f
    induction f with
    | zero => intro x2 μ; rw [lX3_takeNumber_29]; exact hr_none
    | succ f ih =>
      intro x2 μ
      rw [lX3_takeNumber_29]
      refine hr_iload_n hC dX3_takeNumber_29 rfl 0 rfl ?_
      refine hr_bipush (v := 60) hC dX3_takeNumber_30 (by decide) ?_
      refine hr_icmp_ge (tgt := 75) hC dX3_takeNumber_32 (by decide) (fun _ => ?_) (fun _ => ?_)
      · refine hr_sub (lv' := [(2, .int x2), (0, .ref (ad 231)), (1, .int p1)]) [0, 1, 2] rfl ?_
        exact hk _ _
      · refine hr_aload_n hC dX3_takeNumber_35 rfl 1 rfl ?_
        refine hr_iload_n hC dX3_takeNumber_36 rfl 2 rfl ?_
        refine hr_callVi (As := [.int p1]) (k := 231) hC rfl (tX3_isDigitFitting (t1 := t1) (t2 := t2) hI n p1 μ) (cwV 1 hC.1.2.2.2.2 gX3_takeNumber_X3_isDigitFitting rfl rfl rfl (by decide +kernel) ⟨Nat.le_of_ble_eq_true rfl, Nat.le_of_ble_eq_true rfl⟩) kx231 rfl rfl rfl (Nat.le_of_ble_eq_true rfl) dX3_takeNumber_37 (fun r37 m37 => ?_)
        refine hr_if_eq (tgt := 75) hC dX3_takeNumber_40 (by decide) (fun _ => ?_) (fun _ => ?_)
        · refine hr_sub (lv' := [(2, .int x2), (0, .ref (ad 231)), (1, .int p1)]) [0, 1, 2] rfl ?_
          exact hk _ _
        · refine hr_aload_n hC dX3_takeNumber_43 rfl 1 rfl ?_
          refine hr_bipush (v := 10) hC dX3_takeNumber_44 (by decide) ?_
          refine hr_aload_n hC dX3_takeNumber_46 rfl 1 rfl ?_
          refine hr_getI hC hiX3_takeNumber_X3 rfl kx231 3 (by decide) hmX3_takeNumber_22 rfl dX3_takeNumber_47 ?_
          refine hr_imul hC dX3_takeNumber_50 ?_
          refine hr_aload_n hC dX3_takeNumber_51 rfl 1 rfl ?_
          refine hr_callVi (As := []) (k := 231) hC rfl (tX3_digit (t1 := t1) (t2 := t2) hI n m37) (cwV 0 hC.1.2.2.2.2 gX3_takeNumber_X3_digit rfl rfl rfl (by decide +kernel) ⟨Nat.le_of_ble_eq_true rfl, Nat.le_of_ble_eq_true rfl⟩) kx231 rfl rfl rfl (Nat.le_of_ble_eq_true rfl) dX3_takeNumber_52 (fun r52 m52 => ?_)
          refine hr_iadd hC dX3_takeNumber_55 ?_
          refine hr_putI hC hiX3_takeNumber_X3 rfl kx231 3 (by decide) hmX3_takeNumber_22 tyX3_ok nmX3 rfl rfl rfl rfl dX3_takeNumber_56 ?_
          refine hr_aload_n hC dX3_takeNumber_59 rfl 1 rfl ?_
          refine hr_dup hC dX3_takeNumber_60 rfl ?_
          refine hr_getI hC hiX3_takeNumber_X3 rfl kx231 2 (by decide) hmX3_takeNumber_19 rfl dX3_takeNumber_61 ?_
          refine hr_iconst (v := 1) hC dX3_takeNumber_64 (by decide) ?_
          refine hr_iadd hC dX3_takeNumber_65 ?_
          refine hr_putI hC hiX3_takeNumber_X3 rfl kx231 2 (by decide) hmX3_takeNumber_19 tyX3_ok nmX3 rfl rfl rfl rfl dX3_takeNumber_66 ?_
          refine hr_iinc (v := (x2 + (1 : Int32))) (lv' := [(2, .int (x2 + (1 : Int32))), (0, .ref (ad 231)), (1, .int p1)]) (kx := 0) hC dX3_takeNumber_69 rfl rfl (by decide) rfl ?_
          refine hr_goto (tgt := 29) hC dX3_takeNumber_72 (by decide) ?_
          refine hr_sub (lv' := [(2, .int (x2 + (1 : Int32))), (0, .ref (ad 231)), (1, .int p1)]) [0, 1, 2] rfl ?_
          exact ih _ _
  rw [fX3_takeNumber]
  refine hr_aload_n hC dX3_takeNumber_0 rfl 0 rfl ?_
  refine hr_callVi (As := []) (k := 231) hC rfl (tX3_isAtDigit (t1 := t1) (t2 := t2) hI n μ) (cwV 0 hC.1.2.2.2.2 gX3_takeNumber_X3_isAtDigit rfl rfl rfl (by decide +kernel) ⟨Nat.le_of_ble_eq_true rfl, Nat.le_of_ble_eq_true rfl⟩) kx231 rfl rfl rfl (Nat.le_of_ble_eq_true rfl) dX3_takeNumber_1 (fun r1 m1 => ?_)
  refine hr_if_ne (tgt := 9) hC dX3_takeNumber_4 (by decide) (fun _ => ?_) (fun _ => ?_)
  · refine hr_iconst (v := 0) hC dX3_takeNumber_7 (by decide) ?_
    exact hr_iretz hC hr dX3_takeNumber_8 rfl
  · refine hr_aload_n hC dX3_takeNumber_9 rfl 0 rfl ?_
    refine hr_aload_n hC dX3_takeNumber_10 rfl 0 rfl ?_
    refine hr_callVi (As := []) (k := 231) hC rfl (tX3_digit (t1 := t1) (t2 := t2) hI n m1) (cwV 0 hC.1.2.2.2.2 gX3_takeNumber_X3_digit rfl rfl rfl (by decide +kernel) ⟨Nat.le_of_ble_eq_true rfl, Nat.le_of_ble_eq_true rfl⟩) kx231 rfl rfl rfl (Nat.le_of_ble_eq_true rfl) dX3_takeNumber_11 (fun r11 m11 => ?_)
    refine hr_putI hC hiX3_takeNumber_X3 rfl kx231 3 (by decide) hmX3_takeNumber_22 tyX3_ok nmX3 rfl rfl rfl rfl dX3_takeNumber_14 ?_
    refine hr_aload_n hC dX3_takeNumber_17 rfl 0 rfl ?_
    refine hr_dup hC dX3_takeNumber_18 rfl ?_
    refine hr_getI hC hiX3_takeNumber_X3 rfl kx231 2 (by decide) hmX3_takeNumber_19 rfl dX3_takeNumber_19 ?_
    refine hr_iconst (v := 1) hC dX3_takeNumber_22 (by decide) ?_
    refine hr_iadd hC dX3_takeNumber_23 ?_
    refine hr_putI hC hiX3_takeNumber_X3 rfl kx231 2 (by decide) hmX3_takeNumber_19 tyX3_ok nmX3 rfl rfl rfl rfl dX3_takeNumber_24 ?_
    refine hr_iconst (v := 1) hC dX3_takeNumber_27 (by decide) ?_
    refine hr_istore_n (lv' := [(2, .int (1 : Int32)), (0, .ref (ad 231)), (1, .int p1)]) hC dX3_takeNumber_28 rfl (by decide) rfl ?_
    refine hr_sub (lv' := [(2, .int (1 : Int32)), (0, .ref (ad 231)), (1, .int p1)]) [0, 1, 2] rfl ?_
    refine L29 _ (fun x2_29 m29 => ?_) _ _ _
    refine hr_iconst (v := 1) hC dX3_takeNumber_75 (by decide) ?_
    exact hr_iretz hC hr dX3_takeNumber_76 rfl
theorem hmX3_take_19 : Cond.fieldLink RX3 19 "HeatBills$ReadingsText" "at" "I" ∈ wsX3_take := List.mem_of_getElem? (i := 1) rfl
theorem hmX3_take_15 : Cond.fieldLink RX3 15 "HeatBills$ReadingsText" "length" "I" ∈ wsX3_take := List.mem_of_getElem? (i := 2) rfl
theorem hmX3_take_9 : Cond.fieldLink RX3 9 "HeatBills$ReadingsText" "characters" "[C" ∈ wsX3_take := List.mem_of_getElem? (i := 3) rfl
theorem hiX3_take_X3 : ∀ w ∈ wsX30, w ∈ wsX3_take := fun _ h => List.mem_cons_of_mem _ (List.mem_append_right _ h)
def fX3_take (n : Nat) (p1 : Int32) (μ : hb_m) : Option (Int32 × hb_m) :=
if (rd μ 231 1) ≤ (rd μ 231 2) then
(some ((0 : Int32), μ))
else
(if ib (rd μ 231 2) 60 then
if (rd μ 232 (rd μ 231 2).toNatClampNeg) = p1 then
(some ((1 : Int32), (wr μ 231 2 ((rd μ 231 2) + (1 : Int32)))))
else
(some ((0 : Int32), μ))
else none)
abbrev rmX3_take : Room := { frames := 0, cells := 0, slots := 0, locals := 0 }
set_option maxRecDepth 100000 in
set_option maxHeartbeats 4000000 in
theorem tX3_take {l : Launch} {D : va_G} {ad : Nat → Nat} {dA : Nat → ClassId} {t1 t2 : Nat} (hI : hb_I 241 ad) (n : Nat) (p1 : Int32) (μ : hb_m) : hb_M (hb_Qi vwCl kdX 241 ad D dA) l yX3_take wsX3_take rmX3_take vwCl kdX 241 ad D dA (tbX t1 t2) nwX [.ref (ad 231), .int p1] μ (fX3_take n p1 μ) := by
  refine hb_start (cc := cX3_take) (maxL := 2) (ret := (some .boolean)) (by decide) rfl hI (Nat.le_of_ble_eq_true rfl) [(0, .ref (ad 231)), (1, .int p1)] rfl ?_
  intro p e s m args below meth c hC hr
  rw [fX3_take]
  refine hr_aload_n hC dX3_take_0 rfl 0 rfl ?_
  refine hr_getI hC hiX3_take_X3 rfl kx231 2 (by decide) hmX3_take_19 rfl dX3_take_1 ?_
  refine hr_aload_n hC dX3_take_4 rfl 0 rfl ?_
  refine hr_getI hC hiX3_take_X3 rfl kx231 1 (by decide) hmX3_take_15 rfl dX3_take_5 ?_
  refine hr_icmp_ge (tgt := 24) hC dX3_take_8 (by decide) (fun _ => ?_) (fun _ => ?_)
  · refine hr_iconst (v := 0) hC dX3_take_24 (by decide) ?_
    exact hr_iretz hC hr dX3_take_25 rfl
  · refine hr_aload_n hC dX3_take_11 rfl 0 rfl ?_
    refine hr_getR hC hiX3_take_X3 rfl kx231 0 (by decide) hmX3_take_9 rfl dX3_take_12 ?_
    refine hr_aload_n hC dX3_take_15 rfl 0 rfl ?_
    refine hr_getI hC hiX3_take_X3 rfl kx231 2 (by decide) hmX3_take_19 rfl dX3_take_16 ?_
    refine hr_cald hC kx232 dX3_take_19 ?_
    refine hr_iload_n hC dX3_take_20 rfl 1 rfl ?_
    refine hr_icmp_eq (tgt := 26) hC dX3_take_21 (by decide) (fun _ => ?_) (fun _ => ?_)
    · refine hr_aload_n hC dX3_take_26 rfl 0 rfl ?_
      refine hr_dup hC dX3_take_27 rfl ?_
      refine hr_getI hC hiX3_take_X3 rfl kx231 2 (by decide) hmX3_take_19 rfl dX3_take_28 ?_
      refine hr_iconst (v := 1) hC dX3_take_31 (by decide) ?_
      refine hr_iadd hC dX3_take_32 ?_
      refine hr_putI hC hiX3_take_X3 rfl kx231 2 (by decide) hmX3_take_19 tyX3_ok nmX3 rfl rfl rfl rfl dX3_take_33 ?_
      refine hr_iconst (v := 1) hC dX3_take_36 (by decide) ?_
      exact hr_iretz hC hr dX3_take_37 rfl
    · refine hr_iconst (v := 0) hC dX3_take_24 (by decide) ?_
      exact hr_iretz hC hr dX3_take_25 rfl
theorem hmX3_takeReading_28 : Cond.fieldLink RX3 28 "HeatBills$ReadingsText" "toldDevices" "[I" ∈ wsX3_takeReading := List.mem_of_getElem? (i := 1) rfl
theorem hmX3_takeReading_22 : Cond.fieldLink RX3 22 "HeatBills$ReadingsText" "number" "I" ∈ wsX3_takeReading := List.mem_of_getElem? (i := 2) rfl
theorem hmX3_takeReading_32 : Cond.fieldLink RX3 32 "HeatBills$ReadingsText" "toldReadings" "[I" ∈ wsX3_takeReading := List.mem_of_getElem? (i := 3) rfl
theorem hiX3_takeReading_X3 : ∀ w ∈ wsX30, w ∈ wsX3_takeReading := fun _ h => List.mem_cons_of_mem _ (List.mem_append_right _ h)
def fX3_takeReading (n : Nat) (p1 : Int32) (μ : hb_m) : Option (Int32 × hb_m) :=
bi (fX3_takeNumber n (19 : Int32) μ) (fun r3 m3 =>
if r3 = 0 then
(some ((0 : Int32), m3))
else
(if ib p1 15 then
bi (fX3_take n (61 : Int32) (wr m3 233 p1.toNatClampNeg (rd m3 231 3))) (fun r24 m24 =>
if r24 = 0 then
(some ((0 : Int32), m24))
else
(bi (fX3_take n (63 : Int32) m24) (fun r35 m35 =>
if r35 = 0 then
(bi (fX3_takeNumber n (9999 : Int32) m35) (fun r55 m55 =>
if r55 = 0 then
(some ((0 : Int32), m55))
else
(if ib p1 15 then
some ((1 : Int32), (wr m55 234 p1.toNatClampNeg (rd m55 231 3)))
else none)))
else
(if ib p1 15 then
some ((1 : Int32), (wr m35 234 p1.toNatClampNeg (-5 : Int32)))
else none))))
else none))
abbrev rmX3_takeReading : Room := { frames := 3, cells := 0, slots := 0, locals := 63 }
set_option maxRecDepth 100000 in
set_option maxHeartbeats 4000000 in
theorem tX3_takeReading {l : Launch} {D : va_G} {ad : Nat → Nat} {dA : Nat → ClassId} {t1 t2 : Nat} (hI : hb_I 241 ad) (n : Nat) (p1 : Int32) (μ : hb_m) : hb_M (hb_Qi vwCl kdX 241 ad D dA) l yX3_takeReading wsX3_takeReading rmX3_takeReading vwCl kdX 241 ad D dA (tbX t1 t2) nwX [.ref (ad 231), .int p1] μ (fX3_takeReading n p1 μ) := by
  refine hb_start (cc := cX3_takeReading) (maxL := 2) (ret := (some .boolean)) (by decide) rfl hI (Nat.le_of_ble_eq_true rfl) [(0, .ref (ad 231)), (1, .int p1)] rfl ?_
  intro p e s m args below meth c hC hr
  rw [fX3_takeReading]
  refine hr_aload_n hC dX3_takeReading_0 rfl 0 rfl ?_
  refine hr_bipush (v := 19) hC dX3_takeReading_1 (by decide) ?_
  refine hr_callVi (As := [.int (19 : Int32)]) (k := 231) hC rfl (tX3_takeNumber (t1 := t1) (t2 := t2) hI n (19 : Int32) μ) (cwV 1 hC.1.2.2.2.2 gX3_takeReading_X3_takeNumber rfl rfl rfl (by decide +kernel) ⟨Nat.le_of_ble_eq_true rfl, Nat.le_of_ble_eq_true rfl⟩) kx231 rfl rfl rfl (Nat.le_of_ble_eq_true rfl) dX3_takeReading_3 (fun r3 m3 => ?_)
  refine hr_if_ne (tgt := 11) hC dX3_takeReading_6 (by decide) (fun _ => ?_) (fun _ => ?_)
  · refine hr_iconst (v := 0) hC dX3_takeReading_9 (by decide) ?_
    exact hr_iretz hC hr dX3_takeReading_10 rfl
  · refine hr_aload_n hC dX3_takeReading_11 rfl 0 rfl ?_
    refine hr_getR hC hiX3_takeReading_X3 rfl kx231 5 (by decide) hmX3_takeReading_28 rfl dX3_takeReading_12 ?_
    refine hr_iload_n hC dX3_takeReading_15 rfl 1 rfl ?_
    refine hr_aload_n hC dX3_takeReading_16 rfl 0 rfl ?_
    refine hr_getI hC hiX3_takeReading_X3 rfl kx231 3 (by decide) hmX3_takeReading_22 rfl dX3_takeReading_17 ?_
    refine hr_iast hC kx233 dX3_takeReading_20 ?_
    refine hr_aload_n hC dX3_takeReading_21 rfl 0 rfl ?_
    refine hr_bipush (v := 61) hC dX3_takeReading_22 (by decide) ?_
    refine hr_callVi (As := [.int (61 : Int32)]) (k := 231) hC rfl (tX3_take (t1 := t1) (t2 := t2) hI n (61 : Int32) (wr m3 233 p1.toNatClampNeg (rd m3 231 3))) (cwV 1 hC.1.2.2.2.2 gX3_takeReading_X3_take rfl rfl rfl (by decide +kernel) ⟨Nat.le_of_ble_eq_true rfl, Nat.le_of_ble_eq_true rfl⟩) kx231 rfl rfl rfl (Nat.le_of_ble_eq_true rfl) dX3_takeReading_24 (fun r24 m24 => ?_)
    refine hr_if_ne (tgt := 32) hC dX3_takeReading_27 (by decide) (fun _ => ?_) (fun _ => ?_)
    · refine hr_iconst (v := 0) hC dX3_takeReading_30 (by decide) ?_
      exact hr_iretz hC hr dX3_takeReading_31 rfl
    · refine hr_aload_n hC dX3_takeReading_32 rfl 0 rfl ?_
      refine hr_bipush (v := 63) hC dX3_takeReading_33 (by decide) ?_
      refine hr_callVi (As := [.int (63 : Int32)]) (k := 231) hC rfl (tX3_take (t1 := t1) (t2 := t2) hI n (63 : Int32) m24) (cwV 1 hC.1.2.2.2.2 gX3_takeReading_X3_take rfl rfl rfl (by decide +kernel) ⟨Nat.le_of_ble_eq_true rfl, Nat.le_of_ble_eq_true rfl⟩) kx231 rfl rfl rfl (Nat.le_of_ble_eq_true rfl) dX3_takeReading_35 (fun r35 m35 => ?_)
      refine hr_if_eq (tgt := 51) hC dX3_takeReading_38 (by decide) (fun _ => ?_) (fun _ => ?_)
      · refine hr_aload_n hC dX3_takeReading_51 rfl 0 rfl ?_
        refine hr_sipush (v := 9999) hC dX3_takeReading_52 (by decide) ?_
        refine hr_callVi (As := [.int (9999 : Int32)]) (k := 231) hC rfl (tX3_takeNumber (t1 := t1) (t2 := t2) hI n (9999 : Int32) m35) (cwV 1 hC.1.2.2.2.2 gX3_takeReading_X3_takeNumber rfl rfl rfl (by decide +kernel) ⟨Nat.le_of_ble_eq_true rfl, Nat.le_of_ble_eq_true rfl⟩) kx231 rfl rfl rfl (Nat.le_of_ble_eq_true rfl) dX3_takeReading_55 (fun r55 m55 => ?_)
        refine hr_if_ne (tgt := 63) hC dX3_takeReading_58 (by decide) (fun _ => ?_) (fun _ => ?_)
        · refine hr_iconst (v := 0) hC dX3_takeReading_61 (by decide) ?_
          exact hr_iretz hC hr dX3_takeReading_62 rfl
        · refine hr_aload_n hC dX3_takeReading_63 rfl 0 rfl ?_
          refine hr_getR hC hiX3_takeReading_X3 rfl kx231 6 (by decide) hmX3_takeReading_32 rfl dX3_takeReading_64 ?_
          refine hr_iload_n hC dX3_takeReading_67 rfl 1 rfl ?_
          refine hr_aload_n hC dX3_takeReading_68 rfl 0 rfl ?_
          refine hr_getI hC hiX3_takeReading_X3 rfl kx231 3 (by decide) hmX3_takeReading_22 rfl dX3_takeReading_69 ?_
          refine hr_iast hC kx234 dX3_takeReading_72 ?_
          refine hr_iconst (v := 1) hC dX3_takeReading_73 (by decide) ?_
          exact hr_iretz hC hr dX3_takeReading_74 rfl
      · refine hr_aload_n hC dX3_takeReading_41 rfl 0 rfl ?_
        refine hr_getR hC hiX3_takeReading_X3 rfl kx231 6 (by decide) hmX3_takeReading_32 rfl dX3_takeReading_42 ?_
        refine hr_iload_n hC dX3_takeReading_45 rfl 1 rfl ?_
        refine hr_bipush (v := -5) hC dX3_takeReading_46 (by decide) ?_
        refine hr_iast hC kx234 dX3_takeReading_48 ?_
        refine hr_iconst (v := 1) hC dX3_takeReading_49 (by decide) ?_
        exact hr_iretz hC hr dX3_takeReading_50 rfl
theorem hmX3_parse_19 : Cond.fieldLink RX3 19 "HeatBills$ReadingsText" "at" "I" ∈ wsX3_parse := List.mem_of_getElem? (i := 1) rfl
theorem hmX3_parse_25 : Cond.fieldLink RX3 25 "HeatBills$ReadingsText" "toldCount" "I" ∈ wsX3_parse := List.mem_of_getElem? (i := 2) rfl
theorem hmX3_parse_15 : Cond.fieldLink RX3 15 "HeatBills$ReadingsText" "length" "I" ∈ wsX3_parse := List.mem_of_getElem? (i := 3) rfl
theorem hiX3_parse_X3 : ∀ w ∈ wsX30, w ∈ wsX3_parse := fun _ h => List.mem_cons_of_mem _ (List.mem_append_right _ h)
def lX3_parse_12 (n : Nat) (k : Int32 → hb_m → Option (Int32 × hb_m)) : Nat → Int32 → hb_m → Option (Int32 × hb_m)
  | 0, _, _ => none
  | f + 1, x1, μ => if (15 : Int32) ≤ x1 then
(k x1 μ)
else
(bi (fX3_takeReading n x1 μ) (fun r20 m20 =>
if r20 = 0 then
(some ((0 : Int32), m20))
else
(if (rd (wr m20 231 4 (x1 + (1 : Int32))) 231 2) = (rd (wr m20 231 4 (x1 + (1 : Int32))) 231 1) then
(some ((1 : Int32), (wr m20 231 4 (x1 + (1 : Int32)))))
else
(bi (fX3_take n (59 : Int32) (wr m20 231 4 (x1 + (1 : Int32)))) (fun r51 m51 =>
if r51 = 0 then
(some ((0 : Int32), m51))
else
(lX3_parse_12 n k f (x1 + (1 : Int32)) m51))))))
def fX3_parse (n : Nat) (μ : hb_m) : Option (Int32 × hb_m) :=
lX3_parse_12 n (fun x1_12 m12 =>
some ((0 : Int32), m12)) n (0 : Int32) (wr (wr μ 231 2 (0 : Int32)) 231 4 (0 : Int32))
abbrev rmX3_parse : Room := { frames := 4, cells := 0, slots := 0, locals := 84 }
set_option maxRecDepth 100000 in
set_option maxHeartbeats 4000000 in
theorem tX3_parse {l : Launch} {D : va_G} {ad : Nat → Nat} {dA : Nat → ClassId} {t1 t2 : Nat} (hI : hb_I 241 ad) (n : Nat) (μ : hb_m) : hb_M (hb_Qi vwCl kdX 241 ad D dA) l yX3_parse wsX3_parse rmX3_parse vwCl kdX 241 ad D dA (tbX t1 t2) nwX [.ref (ad 231)] μ (fX3_parse n μ) := by
  refine hb_start (cc := cX3_parse) (maxL := 2) (ret := (some .boolean)) (by decide) rfl hI (Nat.le_of_ble_eq_true rfl) [(0, .ref (ad 231))] rfl ?_
  intro p e s m args below meth c hC hr
  have L12 : ∀ (k : Int32 → hb_m → Option (Int32 × hb_m)) (hk : ∀ (x1 : Int32) (μ : hb_m), hb_V p l e rmX3_parse s m args below meth c 2 vwCl kdX 241 ad D dA (hb_Qi vwCl kdX 241 ad D dA) μ 65 [(1, .int x1), (0, .ref (ad 231))] [] (k x1 μ)) (f : Nat) (x1 : Int32) (μ : hb_m), hb_V p l e rmX3_parse s m args below meth c 2 vwCl kdX 241 ad D dA (hb_Qi vwCl kdX 241 ad D dA) μ 12 [(1, .int x1), (0, .ref (ad 231))] [] (lX3_parse_12 n k f x1 μ) := by
    intro k hk f
    induction f with
    | zero => intro x1 μ; rw [lX3_parse_12]; exact hr_none
    | succ f ih =>
      intro x1 μ
      rw [lX3_parse_12]
      refine hr_iload_n hC dX3_parse_12 rfl 0 rfl ?_
      refine hr_bipush (v := 15) hC dX3_parse_13 (by decide) ?_
      refine hr_icmp_ge (tgt := 65) hC dX3_parse_15 (by decide) (fun _ => ?_) (fun _ => ?_)
      · refine hr_sub (lv' := [(1, .int x1), (0, .ref (ad 231))]) [0, 1] rfl ?_
        exact hk _ _
      · refine hr_aload_n hC dX3_parse_18 rfl 1 rfl ?_
        refine hr_iload_n hC dX3_parse_19 rfl 0 rfl ?_
        refine hr_callVi (As := [.int x1]) (k := 231) hC rfl (tX3_takeReading (t1 := t1) (t2 := t2) hI n x1 μ) (cwV 1 hC.1.2.2.2.2 gX3_parse_X3_takeReading rfl rfl rfl (by decide +kernel) ⟨Nat.le_of_ble_eq_true rfl, Nat.le_of_ble_eq_true rfl⟩) kx231 rfl rfl rfl (Nat.le_of_ble_eq_true rfl) dX3_parse_20 (fun r20 m20 => ?_)
        refine hr_if_ne (tgt := 28) hC dX3_parse_23 (by decide) (fun _ => ?_) (fun _ => ?_)
        · refine hr_iconst (v := 0) hC dX3_parse_26 (by decide) ?_
          exact hr_iretz hC hr dX3_parse_27 rfl
        · refine hr_aload_n hC dX3_parse_28 rfl 1 rfl ?_
          refine hr_iload_n hC dX3_parse_29 rfl 0 rfl ?_
          refine hr_iconst (v := 1) hC dX3_parse_30 (by decide) ?_
          refine hr_iadd hC dX3_parse_31 ?_
          refine hr_putI hC hiX3_parse_X3 rfl kx231 4 (by decide) hmX3_parse_25 tyX3_ok nmX3 rfl rfl rfl rfl dX3_parse_32 ?_
          refine hr_aload_n hC dX3_parse_35 rfl 1 rfl ?_
          refine hr_getI hC hiX3_parse_X3 rfl kx231 2 (by decide) hmX3_parse_19 rfl dX3_parse_36 ?_
          refine hr_aload_n hC dX3_parse_39 rfl 1 rfl ?_
          refine hr_getI hC hiX3_parse_X3 rfl kx231 1 (by decide) hmX3_parse_15 rfl dX3_parse_40 ?_
          refine hr_icmp_ne (tgt := 48) hC dX3_parse_43 (by decide) (fun _ => ?_) (fun _ => ?_)
          · refine hr_iconst (v := 1) hC dX3_parse_46 (by decide) ?_
            exact hr_iretz hC hr dX3_parse_47 rfl
          · refine hr_aload_n hC dX3_parse_48 rfl 1 rfl ?_
            refine hr_bipush (v := 59) hC dX3_parse_49 (by decide) ?_
            refine hr_callVi (As := [.int (59 : Int32)]) (k := 231) hC rfl (tX3_take (t1 := t1) (t2 := t2) hI n (59 : Int32) (wr m20 231 4 (x1 + (1 : Int32)))) (cwV 1 hC.1.2.2.2.2 gX3_parse_X3_take rfl rfl rfl (by decide +kernel) ⟨Nat.le_of_ble_eq_true rfl, Nat.le_of_ble_eq_true rfl⟩) kx231 rfl rfl rfl (Nat.le_of_ble_eq_true rfl) dX3_parse_51 (fun r51 m51 => ?_)
            refine hr_if_ne (tgt := 59) hC dX3_parse_54 (by decide) (fun _ => ?_) (fun _ => ?_)
            · refine hr_iconst (v := 0) hC dX3_parse_57 (by decide) ?_
              exact hr_iretz hC hr dX3_parse_58 rfl
            · refine hr_iinc (v := (x1 + (1 : Int32))) (lv' := [(1, .int (x1 + (1 : Int32))), (0, .ref (ad 231))]) (kx := 0) hC dX3_parse_59 rfl rfl (by decide) rfl ?_
              refine hr_goto (tgt := 12) hC dX3_parse_62 (by decide) ?_
              refine hr_sub (lv' := [(1, .int (x1 + (1 : Int32))), (0, .ref (ad 231))]) [0, 1] rfl ?_
              exact ih _ _
  rw [fX3_parse]
  refine hr_aload_n hC dX3_parse_0 rfl 0 rfl ?_
  refine hr_iconst (v := 0) hC dX3_parse_1 (by decide) ?_
  refine hr_putI hC hiX3_parse_X3 rfl kx231 2 (by decide) hmX3_parse_19 tyX3_ok nmX3 rfl rfl rfl rfl dX3_parse_2 ?_
  refine hr_aload_n hC dX3_parse_5 rfl 0 rfl ?_
  refine hr_iconst (v := 0) hC dX3_parse_6 (by decide) ?_
  refine hr_putI hC hiX3_parse_X3 rfl kx231 4 (by decide) hmX3_parse_25 tyX3_ok nmX3 rfl rfl rfl rfl dX3_parse_7 ?_
  refine hr_iconst (v := 0) hC dX3_parse_10 (by decide) ?_
  refine hr_istore_n (lv' := [(1, .int (0 : Int32)), (0, .ref (ad 231))]) hC dX3_parse_11 rfl (by decide) rfl ?_
  refine hr_sub (lv' := [(1, .int (0 : Int32)), (0, .ref (ad 231))]) [0, 1] rfl ?_
  refine L12 _ (fun x1_12 m12 => ?_) _ _ _
  refine hr_iconst (v := 0) hC dX3_parse_65 (by decide) ?_
  exact hr_iretz hC hr dX3_parse_66 rfl
theorem hmX3_namesOnlyDevicesOf_25 : Cond.fieldLink RX3 25 "HeatBills$ReadingsText" "toldCount" "I" ∈ wsX3_namesOnlyDevicesOf := List.mem_of_getElem? (i := 1) rfl
theorem hmX3_namesOnlyDevicesOf_57 : Cond.fieldLink RX3 57 "HeatBills$House" "openYear" "LHeatBills$Year;" ∈ wsX3_namesOnlyDevicesOf := List.mem_of_getElem? (i := 2) rfl
theorem hmX3_namesOnlyDevicesOf_28 : Cond.fieldLink RX3 28 "HeatBills$ReadingsText" "toldDevices" "[I" ∈ wsX3_namesOnlyDevicesOf := List.mem_of_getElem? (i := 3) rfl
theorem hiX3_namesOnlyDevicesOf_X3 : ∀ w ∈ wsX30, w ∈ wsX3_namesOnlyDevicesOf := fun _ h => List.mem_cons_of_mem _ (List.mem_append_left _ (List.mem_append_left _ (List.mem_append_right _ h)))
theorem hiX3_namesOnlyDevicesOf_X2 : ∀ w ∈ wsX20, w ∈ wsX3_namesOnlyDevicesOf := fun _ h => List.mem_cons_of_mem _ (List.mem_append_left _ (List.mem_append_right _ h))
def lX3_namesOnlyDevicesOf_2 (n : Nat) (c1 : Nat) (k : Int32 → hb_m → Option (Int32 × hb_m)) : Nat → Int32 → hb_m → Option (Int32 × hb_m)
  | 0, _, _ => none
  | f + 1, x2, μ => if (rd μ 231 4) ≤ x2 then
(k x2 μ)
else
(if ib x2 15 then
bi (fX4_hasDevice n (c1 + 8) (rd μ 233 x2.toNatClampNeg) μ) (fun r20 m20 =>
if r20 = 0 then
(some ((0 : Int32), m20))
else
(lX3_namesOnlyDevicesOf_2 n c1 k f (x2 + (1 : Int32)) m20))
else none)
def fX3_namesOnlyDevicesOf (n : Nat) (c1 : Nat) (μ : hb_m) : Option (Int32 × hb_m) :=
lX3_namesOnlyDevicesOf_2 n c1 (fun x2_2 m2 =>
some ((1 : Int32), m2)) n (0 : Int32) μ
abbrev rmX3_namesOnlyDevicesOf : Room := { frames := 1, cells := 0, slots := 0, locals := 21 }
set_option maxRecDepth 100000 in
set_option maxHeartbeats 4000000 in
theorem tX3_namesOnlyDevicesOf {l : Launch} {D : va_G} {ad : Nat → Nat} {dA : Nat → ClassId} {t1 t2 : Nat} (hI : hb_I 241 ad) (n : Nat) (c1 : Nat) (h1 : hx_H c1) (μ : hb_m) : hb_M (hb_Qi vwCl kdX 241 ad D dA) l yX3_namesOnlyDevicesOf wsX3_namesOnlyDevicesOf rmX3_namesOnlyDevicesOf vwCl kdX 241 ad D dA (tbX t1 t2) nwX [.ref (ad 231), .ref (ad c1)] μ (fX3_namesOnlyDevicesOf n c1 μ) := by
  refine hb_start (cc := cX3_namesOnlyDevicesOf) (maxL := 3) (ret := (some .boolean)) (by decide) rfl hI (Nat.le_of_ble_eq_true rfl) [(0, .ref (ad 231)), (1, .ref (ad c1))] rfl ?_
  intro p e s m args below meth c hC hr
  have L2 : ∀ (k : Int32 → hb_m → Option (Int32 × hb_m)) (hk : ∀ (x2 : Int32) (μ : hb_m), hb_V p l e rmX3_namesOnlyDevicesOf s m args below meth c 3 vwCl kdX 241 ad D dA (hb_Qi vwCl kdX 241 ad D dA) μ 34 [(2, .int x2), (0, .ref (ad 231)), (1, .ref (ad c1))] [] (k x2 μ)) (f : Nat) (x2 : Int32) (μ : hb_m), hb_V p l e rmX3_namesOnlyDevicesOf s m args below meth c 3 vwCl kdX 241 ad D dA (hb_Qi vwCl kdX 241 ad D dA) μ 2 [(2, .int x2), (0, .ref (ad 231)), (1, .ref (ad c1))] [] (lX3_namesOnlyDevicesOf_2 n c1 k f x2 μ) := by
    intro k hk f
    induction f with
    | zero => intro x2 μ; rw [lX3_namesOnlyDevicesOf_2]; exact hr_none
    | succ f ih =>
      intro x2 μ
      rw [lX3_namesOnlyDevicesOf_2]
      refine hr_iload_n hC dX3_namesOnlyDevicesOf_2 rfl 0 rfl ?_
      refine hr_aload_n hC dX3_namesOnlyDevicesOf_3 rfl 1 rfl ?_
      refine hr_getI hC hiX3_namesOnlyDevicesOf_X3 rfl kx231 4 (by decide) hmX3_namesOnlyDevicesOf_25 rfl dX3_namesOnlyDevicesOf_4 ?_
      refine hr_icmp_ge (tgt := 34) hC dX3_namesOnlyDevicesOf_7 (by decide) (fun _ => ?_) (fun _ => ?_)
      · refine hr_sub (lv' := [(2, .int x2), (0, .ref (ad 231)), (1, .ref (ad c1))]) [0, 1, 2] rfl ?_
        exact hk _ _
      · refine hr_aload_n hC dX3_namesOnlyDevicesOf_10 rfl 2 rfl ?_
        refine hr_getR hC hiX3_namesOnlyDevicesOf_X2 rfl (kxH h1) 9 (by decide) hmX3_namesOnlyDevicesOf_57 rfl dX3_namesOnlyDevicesOf_11 ?_
        refine hr_aload_n hC dX3_namesOnlyDevicesOf_14 rfl 1 rfl ?_
        refine hr_getR hC hiX3_namesOnlyDevicesOf_X3 rfl kx231 5 (by decide) hmX3_namesOnlyDevicesOf_28 rfl dX3_namesOnlyDevicesOf_15 ?_
        refine hr_iload_n hC dX3_namesOnlyDevicesOf_18 rfl 0 rfl ?_
        refine hr_iald hC kx233 dX3_namesOnlyDevicesOf_19 ?_
        refine hr_callVi (As := [.int (rd μ 233 x2.toNatClampNeg)]) (k := (c1 + 8)) hC rfl (tX4_hasDevice (t1 := t1) (t2 := t2) hI n (c1 + 8) (hx_Yo h1) (rd μ 233 x2.toNatClampNeg) μ) (cwV 1 hC.1.2.2.2.2 gX3_namesOnlyDevicesOf_X4_hasDevice rfl rfl rfl (by decide +kernel) ⟨Nat.le_of_ble_eq_true rfl, Nat.le_of_ble_eq_true rfl⟩) (kxY (hx_Yo h1)) rfl rfl rfl (Nat.le_of_ble_eq_true rfl) dX3_namesOnlyDevicesOf_20 (fun r20 m20 => ?_)
        refine hr_if_ne (tgt := 28) hC dX3_namesOnlyDevicesOf_23 (by decide) (fun _ => ?_) (fun _ => ?_)
        · refine hr_iconst (v := 0) hC dX3_namesOnlyDevicesOf_26 (by decide) ?_
          exact hr_iretz hC hr dX3_namesOnlyDevicesOf_27 rfl
        · refine hr_iinc (v := (x2 + (1 : Int32))) (lv' := [(2, .int (x2 + (1 : Int32))), (0, .ref (ad 231)), (1, .ref (ad c1))]) (kx := 0) hC dX3_namesOnlyDevicesOf_28 rfl rfl (by decide) rfl ?_
          refine hr_goto (tgt := 2) hC dX3_namesOnlyDevicesOf_31 (by decide) ?_
          refine hr_sub (lv' := [(2, .int (x2 + (1 : Int32))), (0, .ref (ad 231)), (1, .ref (ad c1))]) [0, 1, 2] rfl ?_
          exact ih _ _
  rw [fX3_namesOnlyDevicesOf]
  refine hr_iconst (v := 0) hC dX3_namesOnlyDevicesOf_0 (by decide) ?_
  refine hr_istore_n (lv' := [(2, .int (0 : Int32)), (0, .ref (ad 231)), (1, .ref (ad c1))]) hC dX3_namesOnlyDevicesOf_1 rfl (by decide) rfl ?_
  refine hr_sub (lv' := [(2, .int (0 : Int32)), (0, .ref (ad 231)), (1, .ref (ad c1))]) [0, 1, 2] rfl ?_
  refine L2 _ (fun x2_2 m2 => ?_) _ _ _
  refine hr_iconst (v := 1) hC dX3_namesOnlyDevicesOf_34 (by decide) ?_
  exact hr_iretz hC hr dX3_namesOnlyDevicesOf_35 rfl
theorem hmX3_isPossibleFor_25 : Cond.fieldLink RX3 25 "HeatBills$ReadingsText" "toldCount" "I" ∈ wsX3_isPossibleFor := List.mem_of_getElem? (i := 1) rfl
theorem hmX3_isPossibleFor_32 : Cond.fieldLink RX3 32 "HeatBills$ReadingsText" "toldReadings" "[I" ∈ wsX3_isPossibleFor := List.mem_of_getElem? (i := 2) rfl
theorem hmX3_isPossibleFor_68 : Cond.fieldLink RX3 68 "HeatBills$House" "beginReadings" "[I" ∈ wsX3_isPossibleFor := List.mem_of_getElem? (i := 3) rfl
theorem hmX3_isPossibleFor_28 : Cond.fieldLink RX3 28 "HeatBills$ReadingsText" "toldDevices" "[I" ∈ wsX3_isPossibleFor := List.mem_of_getElem? (i := 4) rfl
theorem hiX3_isPossibleFor_X3 : ∀ w ∈ wsX30, w ∈ wsX3_isPossibleFor := fun _ h => List.mem_cons_of_mem _ (List.mem_append_left _ (List.mem_append_right _ h))
theorem hiX3_isPossibleFor_X2 : ∀ w ∈ wsX20, w ∈ wsX3_isPossibleFor := fun _ h => List.mem_cons_of_mem _ (List.mem_append_right _ h)
def lX3_isPossibleFor_2 (n : Nat) (c1 : Nat) (k : Int32 → hb_m → Option (Int32 × hb_m)) : Nat → Int32 → hb_m → Option (Int32 × hb_m)
  | 0, _, _ => none
  | f + 1, x2, μ => if (rd μ 231 4) ≤ x2 then
(k x2 μ)
else
(if ib x2 15 then
if (rd μ 234 x2.toNatClampNeg) = (-5 : Int32) then
(lX3_isPossibleFor_2 n c1 k f (x2 + (1 : Int32)) μ)
else
(if ib x2 15 then
if ib x2 15 then
if ib (rd μ 233 x2.toNatClampNeg) 20 then
if (rd μ (c1 + 4) (rd μ 233 x2.toNatClampNeg).toNatClampNeg) ≤ (rd μ 234 x2.toNatClampNeg) then
(lX3_isPossibleFor_2 n c1 k f (x2 + (1 : Int32)) μ)
else
(some ((0 : Int32), μ))
else none
else none
else none)
else none)
def fX3_isPossibleFor (n : Nat) (c1 : Nat) (μ : hb_m) : Option (Int32 × hb_m) :=
lX3_isPossibleFor_2 n c1 (fun x2_2 m2 =>
some ((1 : Int32), m2)) n (0 : Int32) μ
abbrev rmX3_isPossibleFor : Room := { frames := 0, cells := 0, slots := 0, locals := 0 }
set_option maxRecDepth 100000 in
set_option maxHeartbeats 4000000 in
theorem tX3_isPossibleFor {l : Launch} {D : va_G} {ad : Nat → Nat} {dA : Nat → ClassId} {t1 t2 : Nat} (hI : hb_I 241 ad) (n : Nat) (c1 : Nat) (h1 : hx_H c1) (μ : hb_m) : hb_M (hb_Qi vwCl kdX 241 ad D dA) l yX3_isPossibleFor wsX3_isPossibleFor rmX3_isPossibleFor vwCl kdX 241 ad D dA (tbX t1 t2) nwX [.ref (ad 231), .ref (ad c1)] μ (fX3_isPossibleFor n c1 μ) := by
  refine hb_start (cc := cX3_isPossibleFor) (maxL := 4) (ret := (some .boolean)) (by decide) rfl hI (Nat.le_of_ble_eq_true rfl) [(0, .ref (ad 231)), (1, .ref (ad c1))] rfl ?_
  intro p e s m args below meth c hC hr
  have L2 : ∀ (k : Int32 → hb_m → Option (Int32 × hb_m)) (hk : ∀ (x2 : Int32) (μ : hb_m), hb_V p l e rmX3_isPossibleFor s m args below meth c 4 vwCl kdX 241 ad D dA (hb_Qi vwCl kdX 241 ad D dA) μ 59 [(2, .int x2), (0, .ref (ad 231)), (1, .ref (ad c1))] [] (k x2 μ)) (f : Nat) (x2 : Int32) (μ : hb_m), hb_V p l e rmX3_isPossibleFor s m args below meth c 4 vwCl kdX 241 ad D dA (hb_Qi vwCl kdX 241 ad D dA) μ 2 [(2, .int x2), (0, .ref (ad 231)), (1, .ref (ad c1))] [] (lX3_isPossibleFor_2 n c1 k f x2 μ) := by
    intro k hk f
    induction f with
    | zero => intro x2 μ; rw [lX3_isPossibleFor_2]; exact hr_none
    | succ f ih =>
      intro x2 μ
      rw [lX3_isPossibleFor_2]
      refine hr_iload_n hC dX3_isPossibleFor_2 rfl 0 rfl ?_
      refine hr_aload_n hC dX3_isPossibleFor_3 rfl 1 rfl ?_
      refine hr_getI hC hiX3_isPossibleFor_X3 rfl kx231 4 (by decide) hmX3_isPossibleFor_25 rfl dX3_isPossibleFor_4 ?_
      refine hr_icmp_ge (tgt := 59) hC dX3_isPossibleFor_7 (by decide) (fun _ => ?_) (fun _ => ?_)
      · refine hr_sub (lv' := [(2, .int x2), (0, .ref (ad 231)), (1, .ref (ad c1))]) [0, 1, 2] rfl ?_
        exact hk _ _
      · refine hr_aload_n hC dX3_isPossibleFor_10 rfl 1 rfl ?_
        refine hr_getR hC hiX3_isPossibleFor_X3 rfl kx231 6 (by decide) hmX3_isPossibleFor_32 rfl dX3_isPossibleFor_11 ?_
        refine hr_iload_n hC dX3_isPossibleFor_14 rfl 0 rfl ?_
        refine hr_iald hC kx234 dX3_isPossibleFor_15 ?_
        refine hr_bipush (v := -5) hC dX3_isPossibleFor_16 (by decide) ?_
        refine hr_icmp_ne (tgt := 25) hC dX3_isPossibleFor_18 (by decide) (fun _ => ?_) (fun _ => ?_)
        · refine hr_iconst (v := 1) hC dX3_isPossibleFor_21 (by decide) ?_
          refine hr_goto (tgt := 26) hC dX3_isPossibleFor_22 (by decide) ?_
          refine hr_istore_n (lv' := [(3, .int (1 : Int32)), (2, .int x2), (0, .ref (ad 231)), (1, .ref (ad c1))]) hC dX3_isPossibleFor_26 rfl (by decide) rfl ?_
          refine hr_iload_n hC dX3_isPossibleFor_27 rfl 0 rfl ?_
          refine hr_if_neT (tgt := 53) hC dX3_isPossibleFor_28 (by decide) (by decide) ?_
          refine hr_iinc (v := (x2 + (1 : Int32))) (lv' := [(2, .int (x2 + (1 : Int32))), (3, .int (1 : Int32)), (0, .ref (ad 231)), (1, .ref (ad c1))]) (kx := 1) hC dX3_isPossibleFor_53 rfl rfl (by decide) rfl ?_
          refine hr_goto (tgt := 2) hC dX3_isPossibleFor_56 (by decide) ?_
          refine hr_sub (lv' := [(2, .int (x2 + (1 : Int32))), (0, .ref (ad 231)), (1, .ref (ad c1))]) [0, 2, 3] rfl ?_
          exact ih _ _
        · refine hr_iconst (v := 0) hC dX3_isPossibleFor_25 (by decide) ?_
          refine hr_istore_n (lv' := [(3, .int (0 : Int32)), (2, .int x2), (0, .ref (ad 231)), (1, .ref (ad c1))]) hC dX3_isPossibleFor_26 rfl (by decide) rfl ?_
          refine hr_iload_n hC dX3_isPossibleFor_27 rfl 0 rfl ?_
          refine hr_if_neF (tgt := 53) hC dX3_isPossibleFor_28 (by decide) (by decide) ?_
          refine hr_aload_n hC dX3_isPossibleFor_31 rfl 2 rfl ?_
          refine hr_getR hC hiX3_isPossibleFor_X3 rfl kx231 6 (by decide) hmX3_isPossibleFor_32 rfl dX3_isPossibleFor_32 ?_
          refine hr_iload_n hC dX3_isPossibleFor_35 rfl 1 rfl ?_
          refine hr_iald hC kx234 dX3_isPossibleFor_36 ?_
          refine hr_aload_n hC dX3_isPossibleFor_37 rfl 3 rfl ?_
          refine hr_getR hC hiX3_isPossibleFor_X2 rfl (kxH h1) 4 (by decide) hmX3_isPossibleFor_68 rfl dX3_isPossibleFor_38 ?_
          refine hr_aload_n hC dX3_isPossibleFor_41 rfl 2 rfl ?_
          refine hr_getR hC hiX3_isPossibleFor_X3 rfl kx231 5 (by decide) hmX3_isPossibleFor_28 rfl dX3_isPossibleFor_42 ?_
          refine hr_iload_n hC dX3_isPossibleFor_45 rfl 1 rfl ?_
          refine hr_iald hC kx233 dX3_isPossibleFor_46 ?_
          refine hr_iald hC (kxH4 h1) dX3_isPossibleFor_47 ?_
          refine hr_icmp_ge (tgt := 53) hC dX3_isPossibleFor_48 (by decide) (fun _ => ?_) (fun _ => ?_)
          · refine hr_iinc (v := (x2 + (1 : Int32))) (lv' := [(2, .int (x2 + (1 : Int32))), (3, .int (0 : Int32)), (0, .ref (ad 231)), (1, .ref (ad c1))]) (kx := 1) hC dX3_isPossibleFor_53 rfl rfl (by decide) rfl ?_
            refine hr_goto (tgt := 2) hC dX3_isPossibleFor_56 (by decide) ?_
            refine hr_sub (lv' := [(2, .int (x2 + (1 : Int32))), (0, .ref (ad 231)), (1, .ref (ad c1))]) [0, 2, 3] rfl ?_
            exact ih _ _
          · refine hr_iconst (v := 0) hC dX3_isPossibleFor_51 (by decide) ?_
            exact hr_iretz hC hr dX3_isPossibleFor_52 rfl
  rw [fX3_isPossibleFor]
  refine hr_iconst (v := 0) hC dX3_isPossibleFor_0 (by decide) ?_
  refine hr_istore_n (lv' := [(2, .int (0 : Int32)), (0, .ref (ad 231)), (1, .ref (ad c1))]) hC dX3_isPossibleFor_1 rfl (by decide) rfl ?_
  refine hr_sub (lv' := [(2, .int (0 : Int32)), (0, .ref (ad 231)), (1, .ref (ad c1))]) [0, 1, 2] rfl ?_
  refine L2 _ (fun x2_2 m2 => ?_) _ _ _
  refine hr_iconst (v := 1) hC dX3_isPossibleFor_59 (by decide) ?_
  exact hr_iretz hC hr dX3_isPossibleFor_60 rfl

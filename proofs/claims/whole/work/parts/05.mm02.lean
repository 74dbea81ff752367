theorem hmX6_shares_7 : Cond.fieldLink RX6 7 "HeatBillsModel" "s" "[I" ∈ wsX6_shares := List.mem_of_getElem? (i := 1) rfl
theorem hmX6_shares_23 : Cond.fieldLink RX6 23 "HeatBillsModel" "parts" "[I" ∈ wsX6_shares := List.mem_of_getElem? (i := 2) rfl
theorem hmX6_shares_26 : Cond.fieldLink RX6 26 "HeatBillsModel" "got" "[I" ∈ wsX6_shares := List.mem_of_getElem? (i := 3) rfl
theorem hmX6_shares_29 : Cond.fieldLink RX6 29 "HeatBillsModel" "rests" "[J" ∈ wsX6_shares := List.mem_of_getElem? (i := 4) rfl
theorem hmX6_shares_85 : Cond.constantLong RX6 85 (-1) ∈ wsX6_shares := List.mem_of_getElem? (i := 5) rfl
theorem hiX6_shares_X6 : ∀ w ∈ wsX60, w ∈ wsX6_shares := fun _ h => List.mem_cons_of_mem _ (List.mem_append_right _ h)
def lX6_shares_5 (n : Nat) (p1 : Int32) (k : Int32 → Int64 → hb_m → Option (hb_m)) : Nat → Int32 → Int64 → hb_m → Option (hb_m)
  | 0, _, _, _ => none
  | f + 1, x4, x2, μ => if ib (0 : Int32) 415 then
if (rd μ 1 (0 : Int32).toNatClampNeg) ≤ x4 then
(k x4 x2 μ)
else
(if ib x4 8 then
lX6_shares_5 n p1 k f (x4 + (1 : Int32)) (x2 + (rd μ 5 x4.toNatClampNeg).toInt64) μ
else none)
else none
def lX6_shares_39 (n : Nat) (p1 : Int32) (v2 : Int64) (k : Int32 → Int32 → hb_m → Option (hb_m)) : Nat → Int32 → Int32 → hb_m → Option (hb_m)
  | 0, _, _, _ => none
  | f + 1, x5, x4, μ => if ib (0 : Int32) 415 then
if (rd μ 1 (0 : Int32).toNatClampNeg) ≤ x5 then
(k x5 x4 μ)
else
(if ib x5 8 then
if v2 = 0 then none else
if ib x5 8 then
if v2 = 0 then none else
if ib x5 8 then
if ib x5 8 then
lX6_shares_39 n p1 v2 k f (x5 + (1 : Int32)) (x4 - (rd (wL (wr μ 6 x5.toNatClampNeg ((p1.toInt64 * (rd μ 5 x5.toNatClampNeg).toInt64) / v2).toInt32) 7 x5.toNatClampNeg ((p1.toInt64 * (rd μ 5 x5.toNatClampNeg).toInt64) - (p1.toInt64 * (rd μ 5 x5.toNatClampNeg).toInt64) / v2 * v2)) 6 x5.toNatClampNeg)) (wL (wr μ 6 x5.toNatClampNeg ((p1.toInt64 * (rd μ 5 x5.toNatClampNeg).toInt64) / v2).toInt32) 7 x5.toNatClampNeg ((p1.toInt64 * (rd μ 5 x5.toNatClampNeg).toInt64) - (p1.toInt64 * (rd μ 5 x5.toNatClampNeg).toInt64) / v2 * v2))
else none
else none
else none
else none)
else none
def lX6_shares_107 (n : Nat) (p1 : Int32) (v4 : Int32) (k : Int32 → hb_m → Option (hb_m)) : Nat → Int32 → hb_m → Option (hb_m)
  | 0, _, _ => none
  | f + 1, x5, μ => if v4 ≤ x5 then
(k x5 μ)
else
(bi (fX6_greatestRest n μ) (fun r115 m115 =>
if ib r115 8 then
if ib r115 8 then
if ib r115 8 then
lX6_shares_107 n p1 v4 k f (x5 + (1 : Int32)) (wL (wr m115 6 r115.toNatClampNeg ((rd m115 6 r115.toNatClampNeg) + (1 : Int32))) 7 r115.toNatClampNeg (-1 : Int64))
else none
else none
else none))
def fX6_shares (n : Nat) (p1 : Int32) (μ : hb_m) : Option (hb_m) :=
lX6_shares_5 n p1 (fun x4_5 x2_5 m5 =>
lX6_shares_39 n p1 x2_5 (fun x5_39 x4_39 m39 =>
lX6_shares_107 n p1 x4_39 (fun x5_107 m107 =>
some m107) n (0 : Int32) m39) n (0 : Int32) p1 m5) n (0 : Int32) (0 : Int64) μ
abbrev rmX6_shares : Room := { frames := 1, cells := 0, slots := 0, locals := 22 }
set_option maxRecDepth 100000 in
set_option maxHeartbeats 4000000 in
theorem tX6_shares {l : Launch} {D : va_G} {ad : Nat → Nat} {dA : Nat → ClassId} (hI : hb_I 12 ad) (n : Nat) (p1 : Int32) (μ : hb_m) : hb_M (hb_Qv vwCl kdM 12 ad D dA) l yX6_shares wsX6_shares rmX6_shares vwCl kdM 12 ad D dA [] [] [.ref (ad 0), .int p1] μ (fX6_shares n p1 μ) := by
  refine hb_start (cc := cX6_shares) (maxL := 8) (ret := none) (by decide) rfl hI (Nat.le_of_ble_eq_true rfl) [(0, .ref (ad 0)), (1, .int p1)] rfl ?_
  intro p e s m args below meth c hC hr
  have L5 : ∀ (k : Int32 → Int64 → hb_m → Option (hb_m)) (hk : ∀ (x4 : Int32) (x2 : Int64) (μ : hb_m), hb_V p l e rmX6_shares s m args below meth c 8 vwCl kdM 12 ad D dA (hb_Qv vwCl kdM 12 ad D dA) μ 33 [(4, .int x4), (2, .long x2), (0, .ref (ad 0)), (1, .int p1)] [] (k x4 x2 μ)) (f : Nat) (x4 : Int32) (x2 : Int64) (μ : hb_m), hb_V p l e rmX6_shares s m args below meth c 8 vwCl kdM 12 ad D dA (hb_Qv vwCl kdM 12 ad D dA) μ 5 [(4, .int x4), (2, .long x2), (0, .ref (ad 0)), (1, .int p1)] [] (lX6_shares_5 n p1 k f x4 x2 μ) := by
    intro k hk f
    induction f with
    | zero => intro x4 x2 μ; rw [lX6_shares_5]; exact hr_none
    | succ f ih =>
      intro x4 x2 μ
      rw [lX6_shares_5]
      refine hr_iload hC dX6_shares_5 0 rfl ?_
      refine hr_aload_n hC dX6_shares_7 rfl 2 rfl ?_
      refine hr_getR hC hiX6_shares_X6 rfl km0 0 (by decide) hmX6_shares_7 rfl dX6_shares_8 ?_
      refine hr_iconst (v := 0) hC dX6_shares_11 (by decide) ?_
      refine hr_iald hC km1 dX6_shares_12 ?_
      refine hr_icmp_ge (tgt := 33) hC dX6_shares_13 (by decide) (fun _ => ?_) (fun _ => ?_)
      · refine hr_sub (lv' := [(4, .int x4), (2, .long x2), (0, .ref (ad 0)), (1, .int p1)]) [0, 1, 2, 3] rfl ?_
        exact hk _ _ _
      · refine hr_lload_n hC dX6_shares_16 rfl 1 rfl ?_
        refine hr_aload_n hC dX6_shares_17 rfl 2 rfl ?_
        refine hr_getR hC hiX6_shares_X6 rfl km0 7 (by decide) hmX6_shares_23 rfl dX6_shares_18 ?_
        refine hr_iload hC dX6_shares_21 0 rfl ?_
        refine hr_iald hC km5 dX6_shares_23 ?_
        refine hr_i2l hC dX6_shares_24 ?_
        refine hr_ladd hC dX6_shares_25 ?_
        refine hr_lstore_n (lv' := [(2, .long (x2 + (rd μ 5 x4.toNatClampNeg).toInt64)), (4, .int x4), (0, .ref (ad 0)), (1, .int p1)]) hC dX6_shares_26 rfl (by decide) rfl ?_
        refine hr_iinc (v := (x4 + (1 : Int32))) (lv' := [(4, .int (x4 + (1 : Int32))), (2, .long (x2 + (rd μ 5 x4.toNatClampNeg).toInt64)), (0, .ref (ad 0)), (1, .int p1)]) (kx := 1) hC dX6_shares_27 rfl rfl (by decide) rfl ?_
        refine hr_goto (tgt := 5) hC dX6_shares_30 (by decide) ?_
        refine hr_sub (lv' := [(4, .int (x4 + (1 : Int32))), (2, .long (x2 + (rd μ 5 x4.toNatClampNeg).toInt64)), (0, .ref (ad 0)), (1, .int p1)]) [0, 1, 2, 3] rfl ?_
        exact ih _ _ _
  have L39 : ∀ (v2 : Int64) (k : Int32 → Int32 → hb_m → Option (hb_m)) (hk : ∀ (x5 : Int32) (x4 : Int32) (μ : hb_m), hb_V p l e rmX6_shares s m args below meth c 8 vwCl kdM 12 ad D dA (hb_Qv vwCl kdM 12 ad D dA) μ 104 [(5, .int x5), (4, .int x4), (2, .long v2), (0, .ref (ad 0)), (1, .int p1)] [] (k x5 x4 μ)) (f : Nat) (x5 : Int32) (x4 : Int32) (μ : hb_m), hb_V p l e rmX6_shares s m args below meth c 8 vwCl kdM 12 ad D dA (hb_Qv vwCl kdM 12 ad D dA) μ 39 [(5, .int x5), (4, .int x4), (2, .long v2), (0, .ref (ad 0)), (1, .int p1)] [] (lX6_shares_39 n p1 v2 k f x5 x4 μ) := by
    intro v2 k hk f
    induction f with
    | zero => intro x5 x4 μ; rw [lX6_shares_39]; exact hr_none
    | succ f ih =>
      intro x5 x4 μ
      rw [lX6_shares_39]
      refine hr_iload hC dX6_shares_39 0 rfl ?_
      refine hr_aload_n hC dX6_shares_41 rfl 3 rfl ?_
      refine hr_getR hC hiX6_shares_X6 rfl km0 0 (by decide) hmX6_shares_7 rfl dX6_shares_42 ?_
      refine hr_iconst (v := 0) hC dX6_shares_45 (by decide) ?_
      refine hr_iald hC km1 dX6_shares_46 ?_
      refine hr_icmp_ge (tgt := 104) hC dX6_shares_47 (by decide) (fun _ => ?_) (fun _ => ?_)
      · refine hr_sub (lv' := [(5, .int x5), (4, .int x4), (2, .long v2), (0, .ref (ad 0)), (1, .int p1)]) [0, 1, 2, 3, 4] rfl ?_
        exact hk _ _ _
      · refine hr_iload_n hC dX6_shares_50 rfl 4 rfl ?_
        refine hr_i2l hC dX6_shares_51 ?_
        refine hr_aload_n hC dX6_shares_52 rfl 3 rfl ?_
        refine hr_getR hC hiX6_shares_X6 rfl km0 7 (by decide) hmX6_shares_23 rfl dX6_shares_53 ?_
        refine hr_iload hC dX6_shares_56 0 rfl ?_
        refine hr_iald hC km5 dX6_shares_58 ?_
        refine hr_i2l hC dX6_shares_59 ?_
        refine hr_lmul hC dX6_shares_60 ?_
        refine hr_lstore (lv' := [(6, .long (p1.toInt64 * (rd μ 5 x5.toNatClampNeg).toInt64)), (5, .int x5), (4, .int x4), (2, .long v2), (0, .ref (ad 0)), (1, .int p1)]) hC dX6_shares_61 (by decide) rfl ?_
        refine hr_aload_n hC dX6_shares_63 rfl 4 rfl ?_
        refine hr_getR hC hiX6_shares_X6 rfl km0 8 (by decide) hmX6_shares_26 rfl dX6_shares_64 ?_
        refine hr_iload hC dX6_shares_67 1 rfl ?_
        refine hr_lload hC dX6_shares_69 0 rfl ?_
        refine hr_lload_n hC dX6_shares_71 rfl 3 rfl ?_
        refine hr_ldivZ hC dX6_shares_72 ?_
        refine hr_l2i hC dX6_shares_73 ?_
        refine hr_iast hC km6 dX6_shares_74 ?_
        refine hr_aload_n hC dX6_shares_75 rfl 4 rfl ?_
        refine hr_getR hC hiX6_shares_X6 rfl km0 9 (by decide) hmX6_shares_29 rfl dX6_shares_76 ?_
        refine hr_iload hC dX6_shares_79 1 rfl ?_
        refine hr_lload hC dX6_shares_81 0 rfl ?_
        refine hr_lload_n hC dX6_shares_83 rfl 3 rfl ?_
        refine hr_lremZ hC dX6_shares_84 ?_
        refine hr_last hC km7 dX6_shares_85 ?_
        refine hr_iload hC dX6_shares_86 2 rfl ?_
        refine hr_aload_n hC dX6_shares_88 rfl 4 rfl ?_
        refine hr_getR hC hiX6_shares_X6 rfl km0 8 (by decide) hmX6_shares_26 rfl dX6_shares_89 ?_
        refine hr_iload hC dX6_shares_92 1 rfl ?_
        refine hr_iald hC km6 dX6_shares_94 ?_
        refine hr_isub hC dX6_shares_95 ?_
        refine hr_istore (lv' := [(4, .int (x4 - (rd (wL (wr μ 6 x5.toNatClampNeg ((p1.toInt64 * (rd μ 5 x5.toNatClampNeg).toInt64) / v2).toInt32) 7 x5.toNatClampNeg ((p1.toInt64 * (rd μ 5 x5.toNatClampNeg).toInt64) - (p1.toInt64 * (rd μ 5 x5.toNatClampNeg).toInt64) / v2 * v2)) 6 x5.toNatClampNeg))), (6, .long (p1.toInt64 * (rd μ 5 x5.toNatClampNeg).toInt64)), (5, .int x5), (2, .long v2), (0, .ref (ad 0)), (1, .int p1)]) hC dX6_shares_96 (by decide) rfl ?_
        refine hr_iinc (v := (x5 + (1 : Int32))) (lv' := [(5, .int (x5 + (1 : Int32))), (4, .int (x4 - (rd (wL (wr μ 6 x5.toNatClampNeg ((p1.toInt64 * (rd μ 5 x5.toNatClampNeg).toInt64) / v2).toInt32) 7 x5.toNatClampNeg ((p1.toInt64 * (rd μ 5 x5.toNatClampNeg).toInt64) - (p1.toInt64 * (rd μ 5 x5.toNatClampNeg).toInt64) / v2 * v2)) 6 x5.toNatClampNeg))), (6, .long (p1.toInt64 * (rd μ 5 x5.toNatClampNeg).toInt64)), (2, .long v2), (0, .ref (ad 0)), (1, .int p1)]) (kx := 2) hC dX6_shares_98 rfl rfl (by decide) rfl ?_
        refine hr_goto (tgt := 39) hC dX6_shares_101 (by decide) ?_
        refine hr_sub (lv' := [(5, .int (x5 + (1 : Int32))), (4, .int (x4 - (rd (wL (wr μ 6 x5.toNatClampNeg ((p1.toInt64 * (rd μ 5 x5.toNatClampNeg).toInt64) / v2).toInt32) 7 x5.toNatClampNeg ((p1.toInt64 * (rd μ 5 x5.toNatClampNeg).toInt64) - (p1.toInt64 * (rd μ 5 x5.toNatClampNeg).toInt64) / v2 * v2)) 6 x5.toNatClampNeg))), (2, .long v2), (0, .ref (ad 0)), (1, .int p1)]) [0, 1, 3, 4, 5] rfl ?_
        exact ih _ _ _
  have L107 : ∀ (v4 : Int32) (k : Int32 → hb_m → Option (hb_m)) (hk : ∀ (x5 : Int32) (μ : hb_m), hb_V p l e rmX6_shares s m args below meth c 8 vwCl kdM 12 ad D dA (hb_Qv vwCl kdM 12 ad D dA) μ 147 [(5, .int x5), (4, .int v4), (0, .ref (ad 0))] [] (k x5 μ)) (f : Nat) (x5 : Int32) (μ : hb_m), hb_V p l e rmX6_shares s m args below meth c 8 vwCl kdM 12 ad D dA (hb_Qv vwCl kdM 12 ad D dA) μ 107 [(5, .int x5), (4, .int v4), (0, .ref (ad 0))] [] (lX6_shares_107 n p1 v4 k f x5 μ) := by
    intro v4 k hk f
    induction f with
    | zero => intro x5 μ; rw [lX6_shares_107]; exact hr_none
    | succ f ih =>
      intro x5 μ
      rw [lX6_shares_107]
      refine hr_iload hC dX6_shares_107 0 rfl ?_
      refine hr_iload hC dX6_shares_109 1 rfl ?_
      refine hr_icmp_ge (tgt := 147) hC dX6_shares_111 (by decide) (fun _ => ?_) (fun _ => ?_)
      · refine hr_sub (lv' := [(5, .int x5), (4, .int v4), (0, .ref (ad 0))]) [0, 1, 2] rfl ?_
        exact hk _ _
      · refine hr_aload_n hC dX6_shares_114 rfl 2 rfl ?_
        refine hr_callVi (As := []) (k := 0) hC rfl (tX6_greatestRest hI n μ) (cwV 0 hC.1.2.2.2.2 gX6_shares_X6_greatestRest rfl rfl rfl (by decide +kernel) ⟨Nat.le_of_ble_eq_true rfl, Nat.le_of_ble_eq_true rfl⟩) km0 rfl rfl rfl (Nat.le_of_ble_eq_true rfl) dX6_shares_115 (fun r115 m115 => ?_)
        refine hr_istore (lv' := [(6, .int r115), (5, .int x5), (4, .int v4), (0, .ref (ad 0))]) hC dX6_shares_118 (by decide) rfl ?_
        refine hr_aload_n hC dX6_shares_120 rfl 3 rfl ?_
        refine hr_getR hC hiX6_shares_X6 rfl km0 8 (by decide) hmX6_shares_26 rfl dX6_shares_121 ?_
        refine hr_iload hC dX6_shares_124 0 rfl ?_
        refine hr_dup2 hC dX6_shares_126 rfl rfl ?_
        refine hr_iald hC km6 dX6_shares_127 ?_
        refine hr_iconst (v := 1) hC dX6_shares_128 (by decide) ?_
        refine hr_iadd hC dX6_shares_129 ?_
        refine hr_iast hC km6 dX6_shares_130 ?_
        refine hr_aload_n hC dX6_shares_131 rfl 3 rfl ?_
        refine hr_getR hC hiX6_shares_X6 rfl km0 9 (by decide) hmX6_shares_29 rfl dX6_shares_132 ?_
        refine hr_iload hC dX6_shares_135 0 rfl ?_
        refine hr_ldc2 (v := -1) hC dX6_shares_137 hmX6_shares_85 ?_
        refine hr_last hC km7 dX6_shares_140 ?_
        refine hr_iinc (v := (x5 + (1 : Int32))) (lv' := [(5, .int (x5 + (1 : Int32))), (6, .int r115), (4, .int v4), (0, .ref (ad 0))]) (kx := 1) hC dX6_shares_141 rfl rfl (by decide) rfl ?_
        refine hr_goto (tgt := 107) hC dX6_shares_144 (by decide) ?_
        refine hr_sub (lv' := [(5, .int (x5 + (1 : Int32))), (4, .int v4), (0, .ref (ad 0))]) [0, 2, 3] rfl ?_
        exact ih _ _
  rw [fX6_shares]
  refine hr_lconst (v := 0) hC dX6_shares_0 (by decide) ?_
  refine hr_lstore_n (lv' := [(2, .long (0 : Int64)), (0, .ref (ad 0)), (1, .int p1)]) hC dX6_shares_1 rfl (by decide) rfl ?_
  refine hr_iconst (v := 0) hC dX6_shares_2 (by decide) ?_
  refine hr_istore (lv' := [(4, .int (0 : Int32)), (2, .long (0 : Int64)), (0, .ref (ad 0)), (1, .int p1)]) hC dX6_shares_3 (by decide) rfl ?_
  refine hr_sub (lv' := [(4, .int (0 : Int32)), (2, .long (0 : Int64)), (0, .ref (ad 0)), (1, .int p1)]) [0, 1, 2, 3] rfl ?_
  refine L5 _ (fun x4_5 x2_5 m5 => ?_) _ _ _ _
  refine hr_iload_n hC dX6_shares_33 rfl 3 rfl ?_
  refine hr_istore (lv' := [(4, .int p1), (2, .long x2_5), (0, .ref (ad 0)), (1, .int p1)]) hC dX6_shares_34 (by decide) rfl ?_
  refine hr_iconst (v := 0) hC dX6_shares_36 (by decide) ?_
  refine hr_istore (lv' := [(5, .int (0 : Int32)), (4, .int p1), (2, .long x2_5), (0, .ref (ad 0)), (1, .int p1)]) hC dX6_shares_37 (by decide) rfl ?_
  refine hr_sub (lv' := [(5, .int (0 : Int32)), (4, .int p1), (2, .long x2_5), (0, .ref (ad 0)), (1, .int p1)]) [0, 1, 2, 3, 4] rfl ?_
  refine L39 _ _ (fun x5_39 x4_39 m39 => ?_) _ _ _ _
  refine hr_iconst (v := 0) hC dX6_shares_104 (by decide) ?_
  refine hr_istore (lv' := [(5, .int (0 : Int32)), (4, .int x4_39), (2, .long x2_5), (0, .ref (ad 0)), (1, .int p1)]) hC dX6_shares_105 (by decide) rfl ?_
  refine hr_sub (lv' := [(5, .int (0 : Int32)), (4, .int x4_39), (0, .ref (ad 0))]) [0, 1, 3] rfl ?_
  refine L107 _ _ (fun x5_107 m107 => ?_) _ _ _
  exact hr_vret hC hr dX6_shares_147
theorem hmX6_partsAreAreas_7 : Cond.fieldLink RX6 7 "HeatBillsModel" "s" "[I" ∈ wsX6_partsAreAreas := List.mem_of_getElem? (i := 1) rfl
theorem hmX6_partsAreAreas_23 : Cond.fieldLink RX6 23 "HeatBillsModel" "parts" "[I" ∈ wsX6_partsAreAreas := List.mem_of_getElem? (i := 2) rfl
theorem hiX6_partsAreAreas_X6 : ∀ w ∈ wsX60, w ∈ wsX6_partsAreAreas := fun _ h => List.mem_cons_of_mem _ (List.mem_append_right _ h)
def lX6_partsAreAreas_2 (n : Nat) (k : Int32 → hb_m → Option (hb_m)) : Nat → Int32 → hb_m → Option (hb_m)
  | 0, _, _ => none
  | f + 1, x1, μ => if ib (0 : Int32) 415 then
if (rd μ 1 (0 : Int32).toNatClampNeg) ≤ x1 then
(k x1 μ)
else
(bi (fX6_ofFlat n x1 (0 : Int32) μ) (fun r20 m20 =>
if ib x1 8 then
lX6_partsAreAreas_2 n k f (x1 + (1 : Int32)) (wr m20 5 x1.toNatClampNeg r20)
else none))
else none
def fX6_partsAreAreas (n : Nat) (μ : hb_m) : Option (hb_m) :=
lX6_partsAreAreas_2 n (fun x1_2 m2 =>
some m2) n (0 : Int32) μ
abbrev rmX6_partsAreAreas : Room := { frames := 1, cells := 0, slots := 0, locals := 22 }
set_option maxRecDepth 100000 in
set_option maxHeartbeats 4000000 in
theorem tX6_partsAreAreas {l : Launch} {D : va_G} {ad : Nat → Nat} {dA : Nat → ClassId} (hI : hb_I 12 ad) (n : Nat) (μ : hb_m) : hb_M (hb_Qv vwCl kdM 12 ad D dA) l yX6_partsAreAreas wsX6_partsAreAreas rmX6_partsAreAreas vwCl kdM 12 ad D dA [] [] [.ref (ad 0)] μ (fX6_partsAreAreas n μ) := by
  refine hb_start (cc := cX6_partsAreAreas) (maxL := 2) (ret := none) (by decide) rfl hI (Nat.le_of_ble_eq_true rfl) [(0, .ref (ad 0))] rfl ?_
  intro p e s m args below meth c hC hr
  have L2 : ∀ (k : Int32 → hb_m → Option (hb_m)) (hk : ∀ (x1 : Int32) (μ : hb_m), hb_V p l e rmX6_partsAreAreas s m args below meth c 2 vwCl kdM 12 ad D dA (hb_Qv vwCl kdM 12 ad D dA) μ 30 [(1, .int x1), (0, .ref (ad 0))] [] (k x1 μ)) (f : Nat) (x1 : Int32) (μ : hb_m), hb_V p l e rmX6_partsAreAreas s m args below meth c 2 vwCl kdM 12 ad D dA (hb_Qv vwCl kdM 12 ad D dA) μ 2 [(1, .int x1), (0, .ref (ad 0))] [] (lX6_partsAreAreas_2 n k f x1 μ) := by
    intro k hk f
    induction f with
    | zero => intro x1 μ; rw [lX6_partsAreAreas_2]; exact hr_none
    | succ f ih =>
      intro x1 μ
      rw [lX6_partsAreAreas_2]
      refine hr_iload_n hC dX6_partsAreAreas_2 rfl 0 rfl ?_
      refine hr_aload_n hC dX6_partsAreAreas_3 rfl 1 rfl ?_
      refine hr_getR hC hiX6_partsAreAreas_X6 rfl km0 0 (by decide) hmX6_partsAreAreas_7 rfl dX6_partsAreAreas_4 ?_
      refine hr_iconst (v := 0) hC dX6_partsAreAreas_7 (by decide) ?_
      refine hr_iald hC km1 dX6_partsAreAreas_8 ?_
      refine hr_icmp_ge (tgt := 30) hC dX6_partsAreAreas_9 (by decide) (fun _ => ?_) (fun _ => ?_)
      · refine hr_sub (lv' := [(1, .int x1), (0, .ref (ad 0))]) [0, 1] rfl ?_
        exact hk _ _
      · refine hr_aload_n hC dX6_partsAreAreas_12 rfl 1 rfl ?_
        refine hr_getR hC hiX6_partsAreAreas_X6 rfl km0 7 (by decide) hmX6_partsAreAreas_23 rfl dX6_partsAreAreas_13 ?_
        refine hr_iload_n hC dX6_partsAreAreas_16 rfl 0 rfl ?_
        refine hr_aload_n hC dX6_partsAreAreas_17 rfl 1 rfl ?_
        refine hr_iload_n hC dX6_partsAreAreas_18 rfl 0 rfl ?_
        refine hr_iconst (v := 0) hC dX6_partsAreAreas_19 (by decide) ?_
        refine hr_callVi (As := [.int x1, .int (0 : Int32)]) (k := 0) hC rfl (tX6_ofFlat hI n x1 (0 : Int32) μ) (cwV 2 hC.1.2.2.2.2 gX6_partsAreAreas_X6_ofFlat rfl rfl rfl (by decide +kernel) ⟨Nat.le_of_ble_eq_true rfl, Nat.le_of_ble_eq_true rfl⟩) km0 rfl rfl rfl (Nat.le_of_ble_eq_true rfl) dX6_partsAreAreas_20 (fun r20 m20 => ?_)
        refine hr_iast hC km5 dX6_partsAreAreas_23 ?_
        refine hr_iinc (v := (x1 + (1 : Int32))) (lv' := [(1, .int (x1 + (1 : Int32))), (0, .ref (ad 0))]) (kx := 0) hC dX6_partsAreAreas_24 rfl rfl (by decide) rfl ?_
        refine hr_goto (tgt := 2) hC dX6_partsAreAreas_27 (by decide) ?_
        refine hr_sub (lv' := [(1, .int (x1 + (1 : Int32))), (0, .ref (ad 0))]) [0, 1] rfl ?_
        exact ih _ _
  rw [fX6_partsAreAreas]
  refine hr_iconst (v := 0) hC dX6_partsAreAreas_0 (by decide) ?_
  refine hr_istore_n (lv' := [(1, .int (0 : Int32)), (0, .ref (ad 0))]) hC dX6_partsAreAreas_1 rfl (by decide) rfl ?_
  refine hr_sub (lv' := [(1, .int (0 : Int32)), (0, .ref (ad 0))]) [0, 1] rfl ?_
  refine L2 _ (fun x1_2 m2 => ?_) _ _ _
  exact hr_vret hC hr dX6_partsAreAreas_30
theorem hmX6_laysCosts_7 : Cond.fieldLink RX6 7 "HeatBillsModel" "s" "[I" ∈ wsX6_laysCosts := List.mem_of_getElem? (i := 1) rfl
theorem hmX6_laysCosts_36 : Cond.fieldLink RX6 36 "HeatBillsModel" "bases" "[I" ∈ wsX6_laysCosts := List.mem_of_getElem? (i := 2) rfl
theorem hmX6_laysCosts_26 : Cond.fieldLink RX6 26 "HeatBillsModel" "got" "[I" ∈ wsX6_laysCosts := List.mem_of_getElem? (i := 3) rfl
theorem hmX6_laysCosts_33 : Cond.fieldLink RX6 33 "HeatBillsModel" "units" "[I" ∈ wsX6_laysCosts := List.mem_of_getElem? (i := 4) rfl
theorem hmX6_laysCosts_23 : Cond.fieldLink RX6 23 "HeatBillsModel" "parts" "[I" ∈ wsX6_laysCosts := List.mem_of_getElem? (i := 5) rfl
theorem hmX6_laysCosts_39 : Cond.fieldLink RX6 39 "HeatBillsModel" "used" "[I" ∈ wsX6_laysCosts := List.mem_of_getElem? (i := 6) rfl
theorem hiX6_laysCosts_X6 : ∀ w ∈ wsX60, w ∈ wsX6_laysCosts := fun _ h => List.mem_cons_of_mem _ (List.mem_append_right _ h)
def lX6_laysCosts_32 (n : Nat) (p1 : Int32) (p2 : Int32) (v3 : Int32) (k : Int32 → Int32 → hb_m → Option (hb_m)) : Nat → Int32 → Int32 → hb_m → Option (hb_m)
  | 0, _, _, _ => none
  | f + 1, x5, x4, μ => if ib (0 : Int32) 415 then
if (rd μ 1 (0 : Int32).toNatClampNeg) ≤ x5 then
(k x5 x4 μ)
else
(if ib x5 8 then
if ib x5 8 then
if ib x5 8 then
lX6_laysCosts_32 n p1 p2 v3 k f (x5 + (1 : Int32)) (x4 + (rd (wr μ 9 x5.toNatClampNeg (rd μ 6 x5.toNatClampNeg)) 8 x5.toNatClampNeg)) (wr μ 9 x5.toNatClampNeg (rd μ 6 x5.toNatClampNeg))
else none
else none
else none)
else none
def lX6_laysCosts_78 (n : Nat) (p1 : Int32) (p2 : Int32) (v4 : Int32) (v3 : Int32) (k : Int32 → hb_m → Option (hb_m)) : Nat → Int32 → hb_m → Option (hb_m)
  | 0, _, _ => none
  | f + 1, x5, μ => if ib (0 : Int32) 415 then
if (rd μ 1 (0 : Int32).toNatClampNeg) ≤ x5 then
(k x5 μ)
else
(if v4 ≤ 0 then
(k x5 μ)
else
(if ib x5 8 then
if ib x5 8 then
lX6_laysCosts_78 n p1 p2 v4 v3 k f (x5 + (1 : Int32)) (wr μ 5 x5.toNatClampNeg (rd μ 8 x5.toNatClampNeg))
else none
else none))
else none
def lX6_laysCosts_124 (n : Nat) (p1 : Int32) (p2 : Int32) (k : Int32 → hb_m → Option (hb_m)) : Nat → Int32 → hb_m → Option (hb_m)
  | 0, _, _ => none
  | f + 1, x5, μ => if ib (0 : Int32) 415 then
if (rd μ 1 (0 : Int32).toNatClampNeg) ≤ x5 then
(k x5 μ)
else
(if ib x5 8 then
if ib x5 8 then
lX6_laysCosts_124 n p1 p2 k f (x5 + (1 : Int32)) (wr μ 10 x5.toNatClampNeg (rd μ 6 x5.toNatClampNeg))
else none
else none)
else none
def fX6_laysCosts (n : Nat) (p1 : Int32) (p2 : Int32) (μ : hb_m) : Option (hb_m) :=
if ib (0 : Int32) 415 then
if (rd μ 1 (0 : Int32).toNatClampNeg) = 0 then
(some μ)
else
(bv (fX6_partsAreAreas n μ) (fun m18 =>
bv (fX6_shares n ((p1 * p2) / (100 : Int32)) m18) (fun m23 =>
lX6_laysCosts_32 n p1 p2 ((p1 * p2) / (100 : Int32)) (fun x5_32 x4_32 m32 =>
lX6_laysCosts_78 n p1 p2 x4_32 ((p1 * p2) / (100 : Int32)) (fun x5_78 m78 =>
bv (fX6_shares n (p1 - ((p1 * p2) / (100 : Int32))) m78) (fun m118 =>
lX6_laysCosts_124 n p1 p2 (fun x5_124 m124 =>
some m124) n (0 : Int32) m118)) n (0 : Int32) m32) n (0 : Int32) (0 : Int32) m23)))
else none
abbrev rmX6_laysCosts : Room := { frames := 2, cells := 0, slots := 0, locals := 49 }
set_option maxRecDepth 100000 in
set_option maxHeartbeats 4000000 in
theorem tX6_laysCosts {l : Launch} {D : va_G} {ad : Nat → Nat} {dA : Nat → ClassId} (hI : hb_I 12 ad) (n : Nat) (p1 : Int32) (p2 : Int32) (μ : hb_m) : hb_M (hb_Qv vwCl kdM 12 ad D dA) l yX6_laysCosts wsX6_laysCosts rmX6_laysCosts vwCl kdM 12 ad D dA [] [] [.ref (ad 0), .int p1, .int p2] μ (fX6_laysCosts n p1 p2 μ) := by
  refine hb_start (cc := cX6_laysCosts) (maxL := 6) (ret := none) (by decide) rfl hI (Nat.le_of_ble_eq_true rfl) [(0, .ref (ad 0)), (1, .int p1), (2, .int p2)] rfl ?_
  intro p e s m args below meth c hC hr
  have L32 : ∀ (v3 : Int32) (k : Int32 → Int32 → hb_m → Option (hb_m)) (hk : ∀ (x5 : Int32) (x4 : Int32) (μ : hb_m), hb_V p l e rmX6_laysCosts s m args below meth c 6 vwCl kdM 12 ad D dA (hb_Qv vwCl kdM 12 ad D dA) μ 75 [(5, .int x5), (4, .int x4), (3, .int v3), (0, .ref (ad 0)), (1, .int p1)] [] (k x5 x4 μ)) (f : Nat) (x5 : Int32) (x4 : Int32) (μ : hb_m), hb_V p l e rmX6_laysCosts s m args below meth c 6 vwCl kdM 12 ad D dA (hb_Qv vwCl kdM 12 ad D dA) μ 32 [(5, .int x5), (4, .int x4), (3, .int v3), (0, .ref (ad 0)), (1, .int p1)] [] (lX6_laysCosts_32 n p1 p2 v3 k f x5 x4 μ) := by
    intro v3 k hk f
    induction f with
    | zero => intro x5 x4 μ; rw [lX6_laysCosts_32]; exact hr_none
    | succ f ih =>
      intro x5 x4 μ
      rw [lX6_laysCosts_32]
      refine hr_iload hC dX6_laysCosts_32 0 rfl ?_
      refine hr_aload_n hC dX6_laysCosts_34 rfl 3 rfl ?_
      refine hr_getR hC hiX6_laysCosts_X6 rfl km0 0 (by decide) hmX6_laysCosts_7 rfl dX6_laysCosts_35 ?_
      refine hr_iconst (v := 0) hC dX6_laysCosts_38 (by decide) ?_
      refine hr_iald hC km1 dX6_laysCosts_39 ?_
      refine hr_icmp_ge (tgt := 75) hC dX6_laysCosts_40 (by decide) (fun _ => ?_) (fun _ => ?_)
      · refine hr_sub (lv' := [(5, .int x5), (4, .int x4), (3, .int v3), (0, .ref (ad 0)), (1, .int p1)]) [0, 1, 2, 3, 4] rfl ?_
        exact hk _ _ _
      · refine hr_aload_n hC dX6_laysCosts_43 rfl 3 rfl ?_
        refine hr_getR hC hiX6_laysCosts_X6 rfl km0 11 (by decide) hmX6_laysCosts_36 rfl dX6_laysCosts_44 ?_
        refine hr_iload hC dX6_laysCosts_47 0 rfl ?_
        refine hr_aload_n hC dX6_laysCosts_49 rfl 3 rfl ?_
        refine hr_getR hC hiX6_laysCosts_X6 rfl km0 8 (by decide) hmX6_laysCosts_26 rfl dX6_laysCosts_50 ?_
        refine hr_iload hC dX6_laysCosts_53 0 rfl ?_
        refine hr_iald hC km6 dX6_laysCosts_55 ?_
        refine hr_iast hC km9 dX6_laysCosts_56 ?_
        refine hr_iload hC dX6_laysCosts_57 1 rfl ?_
        refine hr_aload_n hC dX6_laysCosts_59 rfl 3 rfl ?_
        refine hr_getR hC hiX6_laysCosts_X6 rfl km0 10 (by decide) hmX6_laysCosts_33 rfl dX6_laysCosts_60 ?_
        refine hr_iload hC dX6_laysCosts_63 0 rfl ?_
        refine hr_iald hC km8 dX6_laysCosts_65 ?_
        refine hr_iadd hC dX6_laysCosts_66 ?_
        refine hr_istore (lv' := [(4, .int (x4 + (rd (wr μ 9 x5.toNatClampNeg (rd μ 6 x5.toNatClampNeg)) 8 x5.toNatClampNeg))), (5, .int x5), (3, .int v3), (0, .ref (ad 0)), (1, .int p1)]) hC dX6_laysCosts_67 (by decide) rfl ?_
        refine hr_iinc (v := (x5 + (1 : Int32))) (lv' := [(5, .int (x5 + (1 : Int32))), (4, .int (x4 + (rd (wr μ 9 x5.toNatClampNeg (rd μ 6 x5.toNatClampNeg)) 8 x5.toNatClampNeg))), (3, .int v3), (0, .ref (ad 0)), (1, .int p1)]) (kx := 1) hC dX6_laysCosts_69 rfl rfl (by decide) rfl ?_
        refine hr_goto (tgt := 32) hC dX6_laysCosts_72 (by decide) ?_
        refine hr_sub (lv' := [(5, .int (x5 + (1 : Int32))), (4, .int (x4 + (rd (wr μ 9 x5.toNatClampNeg (rd μ 6 x5.toNatClampNeg)) 8 x5.toNatClampNeg))), (3, .int v3), (0, .ref (ad 0)), (1, .int p1)]) [0, 1, 2, 3, 4] rfl ?_
        exact ih _ _ _
  have L78 : ∀ (v4 : Int32) (v3 : Int32) (k : Int32 → hb_m → Option (hb_m)) (hk : ∀ (x5 : Int32) (μ : hb_m), hb_V p l e rmX6_laysCosts s m args below meth c 6 vwCl kdM 12 ad D dA (hb_Qv vwCl kdM 12 ad D dA) μ 114 [(5, .int x5), (4, .int v4), (3, .int v3), (0, .ref (ad 0)), (1, .int p1)] [] (k x5 μ)) (f : Nat) (x5 : Int32) (μ : hb_m), hb_V p l e rmX6_laysCosts s m args below meth c 6 vwCl kdM 12 ad D dA (hb_Qv vwCl kdM 12 ad D dA) μ 78 [(5, .int x5), (4, .int v4), (3, .int v3), (0, .ref (ad 0)), (1, .int p1)] [] (lX6_laysCosts_78 n p1 p2 v4 v3 k f x5 μ) := by
    intro v4 v3 k hk f
    induction f with
    | zero => intro x5 μ; rw [lX6_laysCosts_78]; exact hr_none
    | succ f ih =>
      intro x5 μ
      rw [lX6_laysCosts_78]
      refine hr_iload hC dX6_laysCosts_78 0 rfl ?_
      refine hr_aload_n hC dX6_laysCosts_80 rfl 3 rfl ?_
      refine hr_getR hC hiX6_laysCosts_X6 rfl km0 0 (by decide) hmX6_laysCosts_7 rfl dX6_laysCosts_81 ?_
      refine hr_iconst (v := 0) hC dX6_laysCosts_84 (by decide) ?_
      refine hr_iald hC km1 dX6_laysCosts_85 ?_
      refine hr_icmp_ge (tgt := 114) hC dX6_laysCosts_86 (by decide) (fun _ => ?_) (fun _ => ?_)
      · refine hr_sub (lv' := [(5, .int x5), (4, .int v4), (3, .int v3), (0, .ref (ad 0)), (1, .int p1)]) [0, 1, 2, 3, 4] rfl ?_
        exact hk _ _
      · refine hr_iload hC dX6_laysCosts_89 1 rfl ?_
        refine hr_if_le (tgt := 114) hC dX6_laysCosts_91 (by decide) (fun _ => ?_) (fun _ => ?_)
        · refine hr_sub (lv' := [(5, .int x5), (4, .int v4), (3, .int v3), (0, .ref (ad 0)), (1, .int p1)]) [0, 1, 2, 3, 4] rfl ?_
          exact hk _ _
        · refine hr_aload_n hC dX6_laysCosts_94 rfl 3 rfl ?_
          refine hr_getR hC hiX6_laysCosts_X6 rfl km0 7 (by decide) hmX6_laysCosts_23 rfl dX6_laysCosts_95 ?_
          refine hr_iload hC dX6_laysCosts_98 0 rfl ?_
          refine hr_aload_n hC dX6_laysCosts_100 rfl 3 rfl ?_
          refine hr_getR hC hiX6_laysCosts_X6 rfl km0 10 (by decide) hmX6_laysCosts_33 rfl dX6_laysCosts_101 ?_
          refine hr_iload hC dX6_laysCosts_104 0 rfl ?_
          refine hr_iald hC km8 dX6_laysCosts_106 ?_
          refine hr_iast hC km5 dX6_laysCosts_107 ?_
          refine hr_iinc (v := (x5 + (1 : Int32))) (lv' := [(5, .int (x5 + (1 : Int32))), (4, .int v4), (3, .int v3), (0, .ref (ad 0)), (1, .int p1)]) (kx := 0) hC dX6_laysCosts_108 rfl rfl (by decide) rfl ?_
          refine hr_goto (tgt := 78) hC dX6_laysCosts_111 (by decide) ?_
          refine hr_sub (lv' := [(5, .int (x5 + (1 : Int32))), (4, .int v4), (3, .int v3), (0, .ref (ad 0)), (1, .int p1)]) [0, 1, 2, 3, 4] rfl ?_
          exact ih _ _
  have L124 : ∀ (k : Int32 → hb_m → Option (hb_m)) (hk : ∀ (x5 : Int32) (μ : hb_m), hb_V p l e rmX6_laysCosts s m args below meth c 6 vwCl kdM 12 ad D dA (hb_Qv vwCl kdM 12 ad D dA) μ 155 [(5, .int x5), (0, .ref (ad 0))] [] (k x5 μ)) (f : Nat) (x5 : Int32) (μ : hb_m), hb_V p l e rmX6_laysCosts s m args below meth c 6 vwCl kdM 12 ad D dA (hb_Qv vwCl kdM 12 ad D dA) μ 124 [(5, .int x5), (0, .ref (ad 0))] [] (lX6_laysCosts_124 n p1 p2 k f x5 μ) := by
    intro k hk f
    induction f with
    | zero => intro x5 μ; rw [lX6_laysCosts_124]; exact hr_none
    | succ f ih =>
      intro x5 μ
      rw [lX6_laysCosts_124]
      refine hr_iload hC dX6_laysCosts_124 0 rfl ?_
      refine hr_aload_n hC dX6_laysCosts_126 rfl 1 rfl ?_
      refine hr_getR hC hiX6_laysCosts_X6 rfl km0 0 (by decide) hmX6_laysCosts_7 rfl dX6_laysCosts_127 ?_
      refine hr_iconst (v := 0) hC dX6_laysCosts_130 (by decide) ?_
      refine hr_iald hC km1 dX6_laysCosts_131 ?_
      refine hr_icmp_ge (tgt := 155) hC dX6_laysCosts_132 (by decide) (fun _ => ?_) (fun _ => ?_)
      · refine hr_sub (lv' := [(5, .int x5), (0, .ref (ad 0))]) [0, 1] rfl ?_
        exact hk _ _
      · refine hr_aload_n hC dX6_laysCosts_135 rfl 1 rfl ?_
        refine hr_getR hC hiX6_laysCosts_X6 rfl km0 12 (by decide) hmX6_laysCosts_39 rfl dX6_laysCosts_136 ?_
        refine hr_iload hC dX6_laysCosts_139 0 rfl ?_
        refine hr_aload_n hC dX6_laysCosts_141 rfl 1 rfl ?_
        refine hr_getR hC hiX6_laysCosts_X6 rfl km0 8 (by decide) hmX6_laysCosts_26 rfl dX6_laysCosts_142 ?_
        refine hr_iload hC dX6_laysCosts_145 0 rfl ?_
        refine hr_iald hC km6 dX6_laysCosts_147 ?_
        refine hr_iast hC km10 dX6_laysCosts_148 ?_
        refine hr_iinc (v := (x5 + (1 : Int32))) (lv' := [(5, .int (x5 + (1 : Int32))), (0, .ref (ad 0))]) (kx := 0) hC dX6_laysCosts_149 rfl rfl (by decide) rfl ?_
        refine hr_goto (tgt := 124) hC dX6_laysCosts_152 (by decide) ?_
        refine hr_sub (lv' := [(5, .int (x5 + (1 : Int32))), (0, .ref (ad 0))]) [0, 1] rfl ?_
        exact ih _ _
  rw [fX6_laysCosts]
  refine hr_iload_n hC dX6_laysCosts_0 rfl 1 rfl ?_
  refine hr_iload_n hC dX6_laysCosts_1 rfl 2 rfl ?_
  refine hr_imul hC dX6_laysCosts_2 ?_
  refine hr_bipush (v := 100) hC dX6_laysCosts_3 (by decide) ?_
  refine hr_idiv hC dX6_laysCosts_5 (by decide) ?_
  refine hr_istore_n (lv' := [(3, .int ((p1 * p2) / (100 : Int32))), (0, .ref (ad 0)), (1, .int p1), (2, .int p2)]) hC dX6_laysCosts_6 rfl (by decide) rfl ?_
  refine hr_aload_n hC dX6_laysCosts_7 rfl 1 rfl ?_
  refine hr_getR hC hiX6_laysCosts_X6 rfl km0 0 (by decide) hmX6_laysCosts_7 rfl dX6_laysCosts_8 ?_
  refine hr_iconst (v := 0) hC dX6_laysCosts_11 (by decide) ?_
  refine hr_iald hC km1 dX6_laysCosts_12 ?_
  refine hr_if_ne (tgt := 17) hC dX6_laysCosts_13 (by decide) (fun _ => ?_) (fun _ => ?_)
  · exact hr_vret hC hr dX6_laysCosts_16
  · refine hr_aload_n hC dX6_laysCosts_17 rfl 1 rfl ?_
    refine hr_callVv (As := []) (k := 0) hC rfl (tX6_partsAreAreas hI n μ) (cwV 0 hC.1.2.2.2.2 gX6_laysCosts_X6_partsAreAreas rfl rfl rfl (by decide +kernel) ⟨Nat.le_of_ble_eq_true rfl, Nat.le_of_ble_eq_true rfl⟩) km0 rfl rfl rfl (Nat.le_of_ble_eq_true rfl) dX6_laysCosts_18 (fun m18 => ?_)
    refine hr_aload_n hC dX6_laysCosts_21 rfl 1 rfl ?_
    refine hr_iload_n hC dX6_laysCosts_22 rfl 0 rfl ?_
    refine hr_callVv (As := [.int ((p1 * p2) / (100 : Int32))]) (k := 0) hC rfl (tX6_shares hI n ((p1 * p2) / (100 : Int32)) m18) (cwV 1 hC.1.2.2.2.2 gX6_laysCosts_X6_shares rfl rfl rfl (by decide +kernel) ⟨Nat.le_of_ble_eq_true rfl, Nat.le_of_ble_eq_true rfl⟩) km0 rfl rfl rfl (Nat.le_of_ble_eq_true rfl) dX6_laysCosts_23 (fun m23 => ?_)
    refine hr_iconst (v := 0) hC dX6_laysCosts_26 (by decide) ?_
    refine hr_istore (lv' := [(4, .int (0 : Int32)), (3, .int ((p1 * p2) / (100 : Int32))), (0, .ref (ad 0)), (1, .int p1), (2, .int p2)]) hC dX6_laysCosts_27 (by decide) rfl ?_
    refine hr_iconst (v := 0) hC dX6_laysCosts_29 (by decide) ?_
    refine hr_istore (lv' := [(5, .int (0 : Int32)), (4, .int (0 : Int32)), (3, .int ((p1 * p2) / (100 : Int32))), (0, .ref (ad 0)), (1, .int p1), (2, .int p2)]) hC dX6_laysCosts_30 (by decide) rfl ?_
    refine hr_sub (lv' := [(5, .int (0 : Int32)), (4, .int (0 : Int32)), (3, .int ((p1 * p2) / (100 : Int32))), (0, .ref (ad 0)), (1, .int p1)]) [0, 1, 2, 3, 4] rfl ?_
    refine L32 _ _ (fun x5_32 x4_32 m32 => ?_) _ _ _ _
    refine hr_iconst (v := 0) hC dX6_laysCosts_75 (by decide) ?_
    refine hr_istore (lv' := [(5, .int (0 : Int32)), (4, .int x4_32), (3, .int ((p1 * p2) / (100 : Int32))), (0, .ref (ad 0)), (1, .int p1)]) hC dX6_laysCosts_76 (by decide) rfl ?_
    refine hr_sub (lv' := [(5, .int (0 : Int32)), (4, .int x4_32), (3, .int ((p1 * p2) / (100 : Int32))), (0, .ref (ad 0)), (1, .int p1)]) [0, 1, 2, 3, 4] rfl ?_
    refine L78 _ _ _ (fun x5_78 m78 => ?_) _ _ _
    refine hr_aload_n hC dX6_laysCosts_114 rfl 3 rfl ?_
    refine hr_iload_n hC dX6_laysCosts_115 rfl 4 rfl ?_
    refine hr_iload_n hC dX6_laysCosts_116 rfl 2 rfl ?_
    refine hr_isub hC dX6_laysCosts_117 ?_
    refine hr_callVv (As := [.int (p1 - ((p1 * p2) / (100 : Int32)))]) (k := 0) hC rfl (tX6_shares hI n (p1 - ((p1 * p2) / (100 : Int32))) m78) (cwV 1 hC.1.2.2.2.2 gX6_laysCosts_X6_shares rfl rfl rfl (by decide +kernel) ⟨Nat.le_of_ble_eq_true rfl, Nat.le_of_ble_eq_true rfl⟩) km0 rfl rfl rfl (Nat.le_of_ble_eq_true rfl) dX6_laysCosts_118 (fun m118 => ?_)
    refine hr_iconst (v := 0) hC dX6_laysCosts_121 (by decide) ?_
    refine hr_istore (lv' := [(5, .int (0 : Int32)), (4, .int x4_32), (3, .int ((p1 * p2) / (100 : Int32))), (0, .ref (ad 0)), (1, .int p1)]) hC dX6_laysCosts_122 (by decide) rfl ?_
    refine hr_sub (lv' := [(5, .int (0 : Int32)), (0, .ref (ad 0))]) [0, 3] rfl ?_
    refine L124 _ (fun x5_124 m124 => ?_) _ _ _
    exact hr_vret hC hr dX6_laysCosts_155
theorem hmX6_laysUnits_33 : Cond.fieldLink RX6 33 "HeatBillsModel" "units" "[I" ∈ wsX6_laysUnits := List.mem_of_getElem? (i := 1) rfl
theorem hmX6_laysUnits_7 : Cond.fieldLink RX6 7 "HeatBillsModel" "s" "[I" ∈ wsX6_laysUnits := List.mem_of_getElem? (i := 2) rfl
theorem hiX6_laysUnits_X6 : ∀ w ∈ wsX60, w ∈ wsX6_laysUnits := fun _ h => List.mem_cons_of_mem _ (List.mem_append_right _ h)
def lX6_laysUnits_2 (n : Nat) (k : Int32 → hb_m → Option (hb_m)) : Nat → Int32 → hb_m → Option (hb_m)
  | 0, _, _ => none
  | f + 1, x1, μ => if (8 : Int32) ≤ x1 then
(k x1 μ)
else
(if ib x1 8 then
lX6_laysUnits_2 n k f (x1 + (1 : Int32)) (wr μ 8 x1.toNatClampNeg (0 : Int32))
else none)
def lX6_laysUnits_23 (n : Nat) (k : Int32 → hb_m → Option (hb_m)) : Nat → Int32 → hb_m → Option (hb_m)
  | 0, _, _ => none
  | f + 1, x1, μ => if ib (1 : Int32) 415 then
if (rd μ 1 (1 : Int32).toNatClampNeg) ≤ x1 then
(k x1 μ)
else
(bi (fX6_of n x1 (0 : Int32) μ) (fun r40 m40 =>
if ib r40 8 then
bi (fX6_unitsNow n x1 m40) (fun r47 m47 =>
if ib r40 8 then
lX6_laysUnits_23 n k f (x1 + (1 : Int32)) (wr m47 8 r40.toNatClampNeg ((rd m40 8 r40.toNatClampNeg) + r47))
else none)
else none))
else none
def fX6_laysUnits (n : Nat) (μ : hb_m) : Option (hb_m) :=
lX6_laysUnits_2 n (fun x1_2 m2 =>
lX6_laysUnits_23 n (fun x1_23 m23 =>
some m23) n (0 : Int32) m2) n (0 : Int32) μ
abbrev rmX6_laysUnits : Room := { frames := 4, cells := 0, slots := 0, locals := 91 }
set_option maxRecDepth 100000 in
set_option maxHeartbeats 4000000 in
theorem tX6_laysUnits {l : Launch} {D : va_G} {ad : Nat → Nat} {dA : Nat → ClassId} (hI : hb_I 12 ad) (n : Nat) (μ : hb_m) : hb_M (hb_Qv vwCl kdM 12 ad D dA) l yX6_laysUnits wsX6_laysUnits rmX6_laysUnits vwCl kdM 12 ad D dA [] [] [.ref (ad 0)] μ (fX6_laysUnits n μ) := by
  refine hb_start (cc := cX6_laysUnits) (maxL := 2) (ret := none) (by decide) rfl hI (Nat.le_of_ble_eq_true rfl) [(0, .ref (ad 0))] rfl ?_
  intro p e s m args below meth c hC hr
  have L2 : ∀ (k : Int32 → hb_m → Option (hb_m)) (hk : ∀ (x1 : Int32) (μ : hb_m), hb_V p l e rmX6_laysUnits s m args below meth c 2 vwCl kdM 12 ad D dA (hb_Qv vwCl kdM 12 ad D dA) μ 21 [(1, .int x1), (0, .ref (ad 0))] [] (k x1 μ)) (f : Nat) (x1 : Int32) (μ : hb_m), hb_V p l e rmX6_laysUnits s m args below meth c 2 vwCl kdM 12 ad D dA (hb_Qv vwCl kdM 12 ad D dA) μ 2 [(1, .int x1), (0, .ref (ad 0))] [] (lX6_laysUnits_2 n k f x1 μ) := by
    intro k hk f
    induction f with
    | zero => intro x1 μ; rw [lX6_laysUnits_2]; exact hr_none
    | succ f ih =>
      intro x1 μ
      rw [lX6_laysUnits_2]
      refine hr_iload_n hC dX6_laysUnits_2 rfl 0 rfl ?_
      refine hr_bipush (v := 8) hC dX6_laysUnits_3 (by decide) ?_
      refine hr_icmp_ge (tgt := 21) hC dX6_laysUnits_5 (by decide) (fun _ => ?_) (fun _ => ?_)
      · refine hr_sub (lv' := [(1, .int x1), (0, .ref (ad 0))]) [0, 1] rfl ?_
        exact hk _ _
      · refine hr_aload_n hC dX6_laysUnits_8 rfl 1 rfl ?_
        refine hr_getR hC hiX6_laysUnits_X6 rfl km0 10 (by decide) hmX6_laysUnits_33 rfl dX6_laysUnits_9 ?_
        refine hr_iload_n hC dX6_laysUnits_12 rfl 0 rfl ?_
        refine hr_iconst (v := 0) hC dX6_laysUnits_13 (by decide) ?_
        refine hr_iast hC km8 dX6_laysUnits_14 ?_
        refine hr_iinc (v := (x1 + (1 : Int32))) (lv' := [(1, .int (x1 + (1 : Int32))), (0, .ref (ad 0))]) (kx := 0) hC dX6_laysUnits_15 rfl rfl (by decide) rfl ?_
        refine hr_goto (tgt := 2) hC dX6_laysUnits_18 (by decide) ?_
        refine hr_sub (lv' := [(1, .int (x1 + (1 : Int32))), (0, .ref (ad 0))]) [0, 1] rfl ?_
        exact ih _ _
  have L23 : ∀ (k : Int32 → hb_m → Option (hb_m)) (hk : ∀ (x1 : Int32) (μ : hb_m), hb_V p l e rmX6_laysUnits s m args below meth c 2 vwCl kdM 12 ad D dA (hb_Qv vwCl kdM 12 ad D dA) μ 58 [(1, .int x1), (0, .ref (ad 0))] [] (k x1 μ)) (f : Nat) (x1 : Int32) (μ : hb_m), hb_V p l e rmX6_laysUnits s m args below meth c 2 vwCl kdM 12 ad D dA (hb_Qv vwCl kdM 12 ad D dA) μ 23 [(1, .int x1), (0, .ref (ad 0))] [] (lX6_laysUnits_23 n k f x1 μ) := by
    intro k hk f
    induction f with
    | zero => intro x1 μ; rw [lX6_laysUnits_23]; exact hr_none
    | succ f ih =>
      intro x1 μ
      rw [lX6_laysUnits_23]
      refine hr_iload_n hC dX6_laysUnits_23 rfl 0 rfl ?_
      refine hr_aload_n hC dX6_laysUnits_24 rfl 1 rfl ?_
      refine hr_getR hC hiX6_laysUnits_X6 rfl km0 0 (by decide) hmX6_laysUnits_7 rfl dX6_laysUnits_25 ?_
      refine hr_iconst (v := 1) hC dX6_laysUnits_28 (by decide) ?_
      refine hr_iald hC km1 dX6_laysUnits_29 ?_
      refine hr_icmp_ge (tgt := 58) hC dX6_laysUnits_30 (by decide) (fun _ => ?_) (fun _ => ?_)
      · refine hr_sub (lv' := [(1, .int x1), (0, .ref (ad 0))]) [0, 1] rfl ?_
        exact hk _ _
      · refine hr_aload_n hC dX6_laysUnits_33 rfl 1 rfl ?_
        refine hr_getR hC hiX6_laysUnits_X6 rfl km0 10 (by decide) hmX6_laysUnits_33 rfl dX6_laysUnits_34 ?_
        refine hr_aload_n hC dX6_laysUnits_37 rfl 1 rfl ?_
        refine hr_iload_n hC dX6_laysUnits_38 rfl 0 rfl ?_
        refine hr_iconst (v := 0) hC dX6_laysUnits_39 (by decide) ?_
        refine hr_callVi (As := [.int x1, .int (0 : Int32)]) (k := 0) hC rfl (tX6_of hI n x1 (0 : Int32) μ) (cwV 2 hC.1.2.2.2.2 gX6_laysUnits_X6_of rfl rfl rfl (by decide +kernel) ⟨Nat.le_of_ble_eq_true rfl, Nat.le_of_ble_eq_true rfl⟩) km0 rfl rfl rfl (Nat.le_of_ble_eq_true rfl) dX6_laysUnits_40 (fun r40 m40 => ?_)
        refine hr_dup2 hC dX6_laysUnits_43 rfl rfl ?_
        refine hr_iald hC km8 dX6_laysUnits_44 ?_
        refine hr_aload_n hC dX6_laysUnits_45 rfl 1 rfl ?_
        refine hr_iload_n hC dX6_laysUnits_46 rfl 0 rfl ?_
        refine hr_callVi (As := [.int x1]) (k := 0) hC rfl (tX6_unitsNow hI n x1 m40) (cwV 1 hC.1.2.2.2.2 gX6_laysUnits_X6_unitsNow rfl rfl rfl (by decide +kernel) ⟨Nat.le_of_ble_eq_true rfl, Nat.le_of_ble_eq_true rfl⟩) km0 rfl rfl rfl (Nat.le_of_ble_eq_true rfl) dX6_laysUnits_47 (fun r47 m47 => ?_)
        refine hr_iadd hC dX6_laysUnits_50 ?_
        refine hr_iast hC km8 dX6_laysUnits_51 ?_
        refine hr_iinc (v := (x1 + (1 : Int32))) (lv' := [(1, .int (x1 + (1 : Int32))), (0, .ref (ad 0))]) (kx := 0) hC dX6_laysUnits_52 rfl rfl (by decide) rfl ?_
        refine hr_goto (tgt := 23) hC dX6_laysUnits_55 (by decide) ?_
        refine hr_sub (lv' := [(1, .int (x1 + (1 : Int32))), (0, .ref (ad 0))]) [0, 1] rfl ?_
        exact ih _ _
  rw [fX6_laysUnits]
  refine hr_iconst (v := 0) hC dX6_laysUnits_0 (by decide) ?_
  refine hr_istore_n (lv' := [(1, .int (0 : Int32)), (0, .ref (ad 0))]) hC dX6_laysUnits_1 rfl (by decide) rfl ?_
  refine hr_sub (lv' := [(1, .int (0 : Int32)), (0, .ref (ad 0))]) [0, 1] rfl ?_
  refine L2 _ (fun x1_2 m2 => ?_) _ _ _
  refine hr_iconst (v := 0) hC dX6_laysUnits_21 (by decide) ?_
  refine hr_istore_n (lv' := [(1, .int (0 : Int32)), (0, .ref (ad 0))]) hC dX6_laysUnits_22 rfl (by decide) rfl ?_
  refine hr_sub (lv' := [(1, .int (0 : Int32)), (0, .ref (ad 0))]) [0, 1] rfl ?_
  refine L23 _ (fun x1_23 m23 => ?_) _ _ _
  exact hr_vret hC hr dX6_laysUnits_58
theorem hmX6_laysOpen_7 : Cond.fieldLink RX6 7 "HeatBillsModel" "s" "[I" ∈ wsX6_laysOpen := List.mem_of_getElem? (i := 1) rfl
theorem hiX6_laysOpen_X6 : ∀ w ∈ wsX60, w ∈ wsX6_laysOpen := fun _ h => List.mem_cons_of_mem _ (List.mem_append_right _ h)
def fX6_laysOpen (n : Nat) (p1 : Int32) (μ : hb_m) : Option (hb_m) :=
bv (fX6_laysUnits n μ) (fun m1 =>
if ib (3 : Int32) 415 then
bv (fX6_laysCosts n (rd m1 1 (3 : Int32).toNatClampNeg) p1 m1) (fun m12 =>
some m12)
else none)
abbrev rmX6_laysOpen : Room := { frames := 5, cells := 0, slots := 0, locals := 112 }
set_option maxRecDepth 100000 in
set_option maxHeartbeats 4000000 in
theorem tX6_laysOpen {l : Launch} {D : va_G} {ad : Nat → Nat} {dA : Nat → ClassId} (hI : hb_I 12 ad) (n : Nat) (p1 : Int32) (μ : hb_m) : hb_M (hb_Qv vwCl kdM 12 ad D dA) l yX6_laysOpen wsX6_laysOpen rmX6_laysOpen vwCl kdM 12 ad D dA [] [] [.ref (ad 0), .int p1] μ (fX6_laysOpen n p1 μ) := by
  refine hb_start (cc := cX6_laysOpen) (maxL := 2) (ret := none) (by decide) rfl hI (Nat.le_of_ble_eq_true rfl) [(0, .ref (ad 0)), (1, .int p1)] rfl ?_
  intro p e s m args below meth c hC hr
  rw [fX6_laysOpen]
  refine hr_aload_n hC dX6_laysOpen_0 rfl 0 rfl ?_
  refine hr_callVv (As := []) (k := 0) hC rfl (tX6_laysUnits hI n μ) (cwV 0 hC.1.2.2.2.2 gX6_laysOpen_X6_laysUnits rfl rfl rfl (by decide +kernel) ⟨Nat.le_of_ble_eq_true rfl, Nat.le_of_ble_eq_true rfl⟩) km0 rfl rfl rfl (Nat.le_of_ble_eq_true rfl) dX6_laysOpen_1 (fun m1 => ?_)
  refine hr_aload_n hC dX6_laysOpen_4 rfl 0 rfl ?_
  refine hr_aload_n hC dX6_laysOpen_5 rfl 0 rfl ?_
  refine hr_getR hC hiX6_laysOpen_X6 rfl km0 0 (by decide) hmX6_laysOpen_7 rfl dX6_laysOpen_6 ?_
  refine hr_iconst (v := 3) hC dX6_laysOpen_9 (by decide) ?_
  refine hr_iald hC km1 dX6_laysOpen_10 ?_
  refine hr_iload_n hC dX6_laysOpen_11 rfl 1 rfl ?_
  refine hr_callVv (As := [.int (rd m1 1 (3 : Int32).toNatClampNeg), .int p1]) (k := 0) hC rfl (tX6_laysCosts hI n (rd m1 1 (3 : Int32).toNatClampNeg) p1 m1) (cwV 2 hC.1.2.2.2.2 gX6_laysOpen_X6_laysCosts rfl rfl rfl (by decide +kernel) ⟨Nat.le_of_ble_eq_true rfl, Nat.le_of_ble_eq_true rfl⟩) km0 rfl rfl rfl (Nat.le_of_ble_eq_true rfl) dX6_laysOpen_12 (fun m12 => ?_)
  exact hr_vret hC hr dX6_laysOpen_15
theorem hmX6_laysOld_33 : Cond.fieldLink RX6 33 "HeatBillsModel" "units" "[I" ∈ wsX6_laysOld := List.mem_of_getElem? (i := 1) rfl
theorem hmX6_laysOld_7 : Cond.fieldLink RX6 7 "HeatBillsModel" "s" "[I" ∈ wsX6_laysOld := List.mem_of_getElem? (i := 2) rfl
theorem hiX6_laysOld_X6 : ∀ w ∈ wsX60, w ∈ wsX6_laysOld := fun _ h => List.mem_cons_of_mem _ (List.mem_append_right _ h)
def lX6_laysOld_2 (n : Nat) (p1 : Int32) (k : Int32 → hb_m → Option (hb_m)) : Nat → Int32 → hb_m → Option (hb_m)
  | 0, _, _ => none
  | f + 1, x2, μ => if (8 : Int32) ≤ x2 then
(k x2 μ)
else
(if ib x2 8 then
lX6_laysOld_2 n p1 k f (x2 + (1 : Int32)) (wr μ 8 x2.toNatClampNeg (0 : Int32))
else none)
def lX6_laysOld_23 (n : Nat) (p1 : Int32) (k : Int32 → hb_m → Option (hb_m)) : Nat → Int32 → hb_m → Option (hb_m)
  | 0, _, _ => none
  | f + 1, x2, μ => bi (fX6_old n p1 (2 : Int32) μ) (fun r30 m30 =>
if ib r30 415 then
if (rd m30 1 r30.toNatClampNeg) ≤ x2 then
(k x2 m30)
else
(bi (fX6_of n x2 (0 : Int32) m30) (fun r44 m44 =>
if ib r44 8 then
bi (fX6_old n p1 ((3 : Int32) + x2) m44) (fun r57 m57 =>
if ib r57 415 then
if ib r44 8 then
lX6_laysOld_23 n p1 k f (x2 + (1 : Int32)) (wr m57 8 r44.toNatClampNeg ((rd m44 8 r44.toNatClampNeg) + (rd m57 1 r57.toNatClampNeg)))
else none
else none)
else none))
else none)
def fX6_laysOld (n : Nat) (p1 : Int32) (μ : hb_m) : Option (hb_m) :=
lX6_laysOld_2 n p1 (fun x2_2 m2 =>
lX6_laysOld_23 n p1 (fun x2_23 m23 =>
bi (fX6_old n p1 (0 : Int32) m23) (fun r76 m76 =>
if ib r76 415 then
bi (fX6_old n p1 (1 : Int32) m76) (fun r86 m86 =>
if ib r86 415 then
bv (fX6_laysCosts n (rd m76 1 r76.toNatClampNeg) (rd m86 1 r86.toNatClampNeg) m86) (fun m90 =>
some m90)
else none)
else none)) n (0 : Int32) m2) n (0 : Int32) μ
abbrev rmX6_laysOld : Room := { frames := 3, cells := 0, slots := 0, locals := 74 }
set_option maxRecDepth 100000 in
set_option maxHeartbeats 4000000 in
theorem tX6_laysOld {l : Launch} {D : va_G} {ad : Nat → Nat} {dA : Nat → ClassId} (hI : hb_I 12 ad) (n : Nat) (p1 : Int32) (μ : hb_m) : hb_M (hb_Qv vwCl kdM 12 ad D dA) l yX6_laysOld wsX6_laysOld rmX6_laysOld vwCl kdM 12 ad D dA [] [] [.ref (ad 0), .int p1] μ (fX6_laysOld n p1 μ) := by
  refine hb_start (cc := cX6_laysOld) (maxL := 3) (ret := none) (by decide) rfl hI (Nat.le_of_ble_eq_true rfl) [(0, .ref (ad 0)), (1, .int p1)] rfl ?_
  intro p e s m args below meth c hC hr
  have L2 : ∀ (k : Int32 → hb_m → Option (hb_m)) (hk : ∀ (x2 : Int32) (μ : hb_m), hb_V p l e rmX6_laysOld s m args below meth c 3 vwCl kdM 12 ad D dA (hb_Qv vwCl kdM 12 ad D dA) μ 21 [(2, .int x2), (0, .ref (ad 0)), (1, .int p1)] [] (k x2 μ)) (f : Nat) (x2 : Int32) (μ : hb_m), hb_V p l e rmX6_laysOld s m args below meth c 3 vwCl kdM 12 ad D dA (hb_Qv vwCl kdM 12 ad D dA) μ 2 [(2, .int x2), (0, .ref (ad 0)), (1, .int p1)] [] (lX6_laysOld_2 n p1 k f x2 μ) := by
    intro k hk f
    induction f with
    | zero => intro x2 μ; rw [lX6_laysOld_2]; exact hr_none
    | succ f ih =>
      intro x2 μ
      rw [lX6_laysOld_2]
      refine hr_iload_n hC dX6_laysOld_2 rfl 0 rfl ?_
      refine hr_bipush (v := 8) hC dX6_laysOld_3 (by decide) ?_
      refine hr_icmp_ge (tgt := 21) hC dX6_laysOld_5 (by decide) (fun _ => ?_) (fun _ => ?_)
      · refine hr_sub (lv' := [(2, .int x2), (0, .ref (ad 0)), (1, .int p1)]) [0, 1, 2] rfl ?_
        exact hk _ _
      · refine hr_aload_n hC dX6_laysOld_8 rfl 1 rfl ?_
        refine hr_getR hC hiX6_laysOld_X6 rfl km0 10 (by decide) hmX6_laysOld_33 rfl dX6_laysOld_9 ?_
        refine hr_iload_n hC dX6_laysOld_12 rfl 0 rfl ?_
        refine hr_iconst (v := 0) hC dX6_laysOld_13 (by decide) ?_
        refine hr_iast hC km8 dX6_laysOld_14 ?_
        refine hr_iinc (v := (x2 + (1 : Int32))) (lv' := [(2, .int (x2 + (1 : Int32))), (0, .ref (ad 0)), (1, .int p1)]) (kx := 0) hC dX6_laysOld_15 rfl rfl (by decide) rfl ?_
        refine hr_goto (tgt := 2) hC dX6_laysOld_18 (by decide) ?_
        refine hr_sub (lv' := [(2, .int (x2 + (1 : Int32))), (0, .ref (ad 0)), (1, .int p1)]) [0, 1, 2] rfl ?_
        exact ih _ _
  have L23 : ∀ (k : Int32 → hb_m → Option (hb_m)) (hk : ∀ (x2 : Int32) (μ : hb_m), hb_V p l e rmX6_laysOld s m args below meth c 3 vwCl kdM 12 ad D dA (hb_Qv vwCl kdM 12 ad D dA) μ 69 [(2, .int x2), (0, .ref (ad 0)), (1, .int p1)] [] (k x2 μ)) (f : Nat) (x2 : Int32) (μ : hb_m), hb_V p l e rmX6_laysOld s m args below meth c 3 vwCl kdM 12 ad D dA (hb_Qv vwCl kdM 12 ad D dA) μ 23 [(2, .int x2), (0, .ref (ad 0)), (1, .int p1)] [] (lX6_laysOld_23 n p1 k f x2 μ) := by
    intro k hk f
    induction f with
    | zero => intro x2 μ; rw [lX6_laysOld_23]; exact hr_none
    | succ f ih =>
      intro x2 μ
      rw [lX6_laysOld_23]
      refine hr_iload_n hC dX6_laysOld_23 rfl 0 rfl ?_
      refine hr_aload_n hC dX6_laysOld_24 rfl 1 rfl ?_
      refine hr_getR hC hiX6_laysOld_X6 rfl km0 0 (by decide) hmX6_laysOld_7 rfl dX6_laysOld_25 ?_
      refine hr_iload_n hC dX6_laysOld_28 rfl 2 rfl ?_
      refine hr_iconst (v := 2) hC dX6_laysOld_29 (by decide) ?_
      refine hr_callSi (As := [.int p1, .int (2 : Int32)]) hC rfl (tX6_old hI n p1 (2 : Int32) μ) (va_cwS 2 hC.1.2.2.2.2 gX6_laysOld_X6_old rfl rfl rfl (by decide +kernel) ⟨Nat.le_of_ble_eq_true rfl, Nat.le_of_ble_eq_true rfl⟩) rfl (Nat.le_of_ble_eq_true rfl) dX6_laysOld_30 (fun r30 m30 => ?_)
      refine hr_iald hC km1 dX6_laysOld_33 ?_
      refine hr_icmp_ge (tgt := 69) hC dX6_laysOld_34 (by decide) (fun _ => ?_) (fun _ => ?_)
      · refine hr_sub (lv' := [(2, .int x2), (0, .ref (ad 0)), (1, .int p1)]) [0, 1, 2] rfl ?_
        exact hk _ _
      · refine hr_aload_n hC dX6_laysOld_37 rfl 1 rfl ?_
        refine hr_getR hC hiX6_laysOld_X6 rfl km0 10 (by decide) hmX6_laysOld_33 rfl dX6_laysOld_38 ?_
        refine hr_aload_n hC dX6_laysOld_41 rfl 1 rfl ?_
        refine hr_iload_n hC dX6_laysOld_42 rfl 0 rfl ?_
        refine hr_iconst (v := 0) hC dX6_laysOld_43 (by decide) ?_
        refine hr_callVi (As := [.int x2, .int (0 : Int32)]) (k := 0) hC rfl (tX6_of hI n x2 (0 : Int32) m30) (cwV 2 hC.1.2.2.2.2 gX6_laysOld_X6_of rfl rfl rfl (by decide +kernel) ⟨Nat.le_of_ble_eq_true rfl, Nat.le_of_ble_eq_true rfl⟩) km0 rfl rfl rfl (Nat.le_of_ble_eq_true rfl) dX6_laysOld_44 (fun r44 m44 => ?_)
        refine hr_dup2 hC dX6_laysOld_47 rfl rfl ?_
        refine hr_iald hC km8 dX6_laysOld_48 ?_
        refine hr_aload_n hC dX6_laysOld_49 rfl 1 rfl ?_
        refine hr_getR hC hiX6_laysOld_X6 rfl km0 0 (by decide) hmX6_laysOld_7 rfl dX6_laysOld_50 ?_
        refine hr_iload_n hC dX6_laysOld_53 rfl 2 rfl ?_
        refine hr_iconst (v := 3) hC dX6_laysOld_54 (by decide) ?_
        refine hr_iload_n hC dX6_laysOld_55 rfl 0 rfl ?_
        refine hr_iadd hC dX6_laysOld_56 ?_
        refine hr_callSi (As := [.int p1, .int ((3 : Int32) + x2)]) hC rfl (tX6_old hI n p1 ((3 : Int32) + x2) m44) (va_cwS 2 hC.1.2.2.2.2 gX6_laysOld_X6_old rfl rfl rfl (by decide +kernel) ⟨Nat.le_of_ble_eq_true rfl, Nat.le_of_ble_eq_true rfl⟩) rfl (Nat.le_of_ble_eq_true rfl) dX6_laysOld_57 (fun r57 m57 => ?_)
        refine hr_iald hC km1 dX6_laysOld_60 ?_
        refine hr_iadd hC dX6_laysOld_61 ?_
        refine hr_iast hC km8 dX6_laysOld_62 ?_
        refine hr_iinc (v := (x2 + (1 : Int32))) (lv' := [(2, .int (x2 + (1 : Int32))), (0, .ref (ad 0)), (1, .int p1)]) (kx := 0) hC dX6_laysOld_63 rfl rfl (by decide) rfl ?_
        refine hr_goto (tgt := 23) hC dX6_laysOld_66 (by decide) ?_
        refine hr_sub (lv' := [(2, .int (x2 + (1 : Int32))), (0, .ref (ad 0)), (1, .int p1)]) [0, 1, 2] rfl ?_
        exact ih _ _
  rw [fX6_laysOld]
  refine hr_iconst (v := 0) hC dX6_laysOld_0 (by decide) ?_
  refine hr_istore_n (lv' := [(2, .int (0 : Int32)), (0, .ref (ad 0)), (1, .int p1)]) hC dX6_laysOld_1 rfl (by decide) rfl ?_
  refine hr_sub (lv' := [(2, .int (0 : Int32)), (0, .ref (ad 0)), (1, .int p1)]) [0, 1, 2] rfl ?_
  refine L2 _ (fun x2_2 m2 => ?_) _ _ _
  refine hr_iconst (v := 0) hC dX6_laysOld_21 (by decide) ?_
  refine hr_istore_n (lv' := [(2, .int (0 : Int32)), (0, .ref (ad 0)), (1, .int p1)]) hC dX6_laysOld_22 rfl (by decide) rfl ?_
  refine hr_sub (lv' := [(2, .int (0 : Int32)), (0, .ref (ad 0)), (1, .int p1)]) [0, 1, 2] rfl ?_
  refine L23 _ (fun x2_23 m23 => ?_) _ _ _
  refine hr_aload_n hC dX6_laysOld_69 rfl 1 rfl ?_
  refine hr_aload_n hC dX6_laysOld_70 rfl 1 rfl ?_
  refine hr_getR hC hiX6_laysOld_X6 rfl km0 0 (by decide) hmX6_laysOld_7 rfl dX6_laysOld_71 ?_
  refine hr_iload_n hC dX6_laysOld_74 rfl 2 rfl ?_
  refine hr_iconst (v := 0) hC dX6_laysOld_75 (by decide) ?_
  refine hr_callSi (As := [.int p1, .int (0 : Int32)]) hC rfl (tX6_old hI n p1 (0 : Int32) m23) (va_cwS 2 hC.1.2.2.2.2 gX6_laysOld_X6_old rfl rfl rfl (by decide +kernel) ⟨Nat.le_of_ble_eq_true rfl, Nat.le_of_ble_eq_true rfl⟩) rfl (Nat.le_of_ble_eq_true rfl) dX6_laysOld_76 (fun r76 m76 => ?_)
  refine hr_iald hC km1 dX6_laysOld_79 ?_
  refine hr_aload_n hC dX6_laysOld_80 rfl 1 rfl ?_
  refine hr_getR hC hiX6_laysOld_X6 rfl km0 0 (by decide) hmX6_laysOld_7 rfl dX6_laysOld_81 ?_
  refine hr_iload_n hC dX6_laysOld_84 rfl 2 rfl ?_
  refine hr_iconst (v := 1) hC dX6_laysOld_85 (by decide) ?_
  refine hr_callSi (As := [.int p1, .int (1 : Int32)]) hC rfl (tX6_old hI n p1 (1 : Int32) m76) (va_cwS 2 hC.1.2.2.2.2 gX6_laysOld_X6_old rfl rfl rfl (by decide +kernel) ⟨Nat.le_of_ble_eq_true rfl, Nat.le_of_ble_eq_true rfl⟩) rfl (Nat.le_of_ble_eq_true rfl) dX6_laysOld_86 (fun r86 m86 => ?_)
  refine hr_iald hC km1 dX6_laysOld_89 ?_
  refine hr_callVv (As := [.int (rd m76 1 r76.toNatClampNeg), .int (rd m86 1 r86.toNatClampNeg)]) (k := 0) hC rfl (tX6_laysCosts hI n (rd m76 1 r76.toNatClampNeg) (rd m86 1 r86.toNatClampNeg) m86) (cwV 2 hC.1.2.2.2.2 gX6_laysOld_X6_laysCosts rfl rfl rfl (by decide +kernel) ⟨Nat.le_of_ble_eq_true rfl, Nat.le_of_ble_eq_true rfl⟩) km0 rfl rfl rfl (Nat.le_of_ble_eq_true rfl) dX6_laysOld_90 (fun m90 => ?_)
  exact hr_vret hC hr dX6_laysOld_93
theorem hmX6_firstOf_36 : Cond.fieldLink RX6 36 "HeatBillsModel" "bases" "[I" ∈ wsX6_firstOf := List.mem_of_getElem? (i := 1) rfl
theorem hmX6_firstOf_39 : Cond.fieldLink RX6 39 "HeatBillsModel" "used" "[I" ∈ wsX6_firstOf := List.mem_of_getElem? (i := 2) rfl
theorem hiX6_firstOf_X6 : ∀ w ∈ wsX60, w ∈ wsX6_firstOf := fun _ h => List.mem_cons_of_mem _ (List.mem_append_right _ h)
def fX6_firstOf (n : Nat) (p1 : Int32) (p2 : Int32) (p3 : Int32) (μ : hb_m) : Option (Int32 × hb_m) :=
if p2 = 0 then
(if ib p1 8 then
if ib p1 8 then
some (((rd μ 9 p1.toNatClampNeg) + (rd μ 10 p1.toNatClampNeg)), μ)
else none
else none)
else
(if p3 = (-5 : Int32) then
(bi (fX6_weightsAhead n p2 μ) (fun r25 m25 =>
if ib p1 8 then
if ib p1 8 then
some (((((rd m25 9 p1.toNatClampNeg) * p2) / (12 : Int32)) + (((rd m25 10 p1.toNatClampNeg) * r25) / (1000 : Int32))), m25)
else none
else none))
else
(if ib p1 8 then
if ib p1 8 then
some (((((rd μ 9 p1.toNatClampNeg) * p2) / (12 : Int32)) + (((rd μ 10 p1.toNatClampNeg) * p3) / (1000 : Int32))), μ)
else none
else none))
abbrev rmX6_firstOf : Room := { frames := 2, cells := 0, slots := 0, locals := 42 }
set_option maxRecDepth 100000 in
set_option maxHeartbeats 4000000 in
theorem tX6_firstOf {l : Launch} {D : va_G} {ad : Nat → Nat} {dA : Nat → ClassId} (hI : hb_I 12 ad) (n : Nat) (p1 : Int32) (p2 : Int32) (p3 : Int32) (μ : hb_m) : hb_M (hb_Qi vwCl kdM 12 ad D dA) l yX6_firstOf wsX6_firstOf rmX6_firstOf vwCl kdM 12 ad D dA [] [] [.ref (ad 0), .int p1, .int p2, .int p3] μ (fX6_firstOf n p1 p2 p3 μ) := by
  refine hb_start (cc := cX6_firstOf) (maxL := 5) (ret := (some .int)) (by decide) rfl hI (Nat.le_of_ble_eq_true rfl) [(0, .ref (ad 0)), (1, .int p1), (2, .int p2), (3, .int p3)] rfl ?_
  intro p e s m args below meth c hC hr
  rw [fX6_firstOf]
  refine hr_iload_n hC dX6_firstOf_0 rfl 2 rfl ?_
  refine hr_if_ne (tgt := 18) hC dX6_firstOf_1 (by decide) (fun _ => ?_) (fun _ => ?_)
  · refine hr_aload_n hC dX6_firstOf_4 rfl 0 rfl ?_
    refine hr_getR hC hiX6_firstOf_X6 rfl km0 11 (by decide) hmX6_firstOf_36 rfl dX6_firstOf_5 ?_
    refine hr_iload_n hC dX6_firstOf_8 rfl 1 rfl ?_
    refine hr_iald hC km9 dX6_firstOf_9 ?_
    refine hr_aload_n hC dX6_firstOf_10 rfl 0 rfl ?_
    refine hr_getR hC hiX6_firstOf_X6 rfl km0 12 (by decide) hmX6_firstOf_39 rfl dX6_firstOf_11 ?_
    refine hr_iload_n hC dX6_firstOf_14 rfl 1 rfl ?_
    refine hr_iald hC km10 dX6_firstOf_15 ?_
    refine hr_iadd hC dX6_firstOf_16 ?_
    exact hr_ireti hC hr dX6_firstOf_17
  · refine hr_iload_n hC dX6_firstOf_18 rfl 3 rfl ?_
    refine hr_bipush (v := -5) hC dX6_firstOf_19 (by decide) ?_
    refine hr_icmp_ne (tgt := 31) hC dX6_firstOf_21 (by decide) (fun _ => ?_) (fun _ => ?_)
    · refine hr_iload_n hC dX6_firstOf_24 rfl 2 rfl ?_
      refine hr_callSi (As := [.int p2]) hC rfl (tX6_weightsAhead hI n p2 μ) (va_cwS 1 hC.1.2.2.2.2 gX6_firstOf_X6_weightsAhead rfl rfl rfl (by decide +kernel) ⟨Nat.le_of_ble_eq_true rfl, Nat.le_of_ble_eq_true rfl⟩) rfl (Nat.le_of_ble_eq_true rfl) dX6_firstOf_25 (fun r25 m25 => ?_)
      refine hr_goto (tgt := 32) hC dX6_firstOf_28 (by decide) ?_
      refine hr_istore (lv' := [(4, .int r25), (0, .ref (ad 0)), (1, .int p1), (2, .int p2), (3, .int p3)]) hC dX6_firstOf_32 (by decide) rfl ?_
      refine hr_aload_n hC dX6_firstOf_34 rfl 1 rfl ?_
      refine hr_getR hC hiX6_firstOf_X6 rfl km0 11 (by decide) hmX6_firstOf_36 rfl dX6_firstOf_35 ?_
      refine hr_iload_n hC dX6_firstOf_38 rfl 2 rfl ?_
      refine hr_iald hC km9 dX6_firstOf_39 ?_
      refine hr_iload_n hC dX6_firstOf_40 rfl 3 rfl ?_
      refine hr_imul hC dX6_firstOf_41 ?_
      refine hr_bipush (v := 12) hC dX6_firstOf_42 (by decide) ?_
      refine hr_idiv hC dX6_firstOf_44 (by decide) ?_
      refine hr_aload_n hC dX6_firstOf_45 rfl 1 rfl ?_
      refine hr_getR hC hiX6_firstOf_X6 rfl km0 12 (by decide) hmX6_firstOf_39 rfl dX6_firstOf_46 ?_
      refine hr_iload_n hC dX6_firstOf_49 rfl 2 rfl ?_
      refine hr_iald hC km10 dX6_firstOf_50 ?_
      refine hr_iload hC dX6_firstOf_51 0 rfl ?_
      refine hr_imul hC dX6_firstOf_53 ?_
      refine hr_sipush (v := 1000) hC dX6_firstOf_54 (by decide) ?_
      refine hr_idiv hC dX6_firstOf_57 (by decide) ?_
      refine hr_iadd hC dX6_firstOf_58 ?_
      exact hr_ireti hC hr dX6_firstOf_59
    · refine hr_iload_n hC dX6_firstOf_31 rfl 3 rfl ?_
      refine hr_istore (lv' := [(4, .int p3), (0, .ref (ad 0)), (1, .int p1), (2, .int p2), (3, .int p3)]) hC dX6_firstOf_32 (by decide) rfl ?_
      refine hr_aload_n hC dX6_firstOf_34 rfl 1 rfl ?_
      refine hr_getR hC hiX6_firstOf_X6 rfl km0 11 (by decide) hmX6_firstOf_36 rfl dX6_firstOf_35 ?_
      refine hr_iload_n hC dX6_firstOf_38 rfl 2 rfl ?_
      refine hr_iald hC km9 dX6_firstOf_39 ?_
      refine hr_iload_n hC dX6_firstOf_40 rfl 3 rfl ?_
      refine hr_imul hC dX6_firstOf_41 ?_
      refine hr_bipush (v := 12) hC dX6_firstOf_42 (by decide) ?_
      refine hr_idiv hC dX6_firstOf_44 (by decide) ?_
      refine hr_aload_n hC dX6_firstOf_45 rfl 1 rfl ?_
      refine hr_getR hC hiX6_firstOf_X6 rfl km0 12 (by decide) hmX6_firstOf_39 rfl dX6_firstOf_46 ?_
      refine hr_iload_n hC dX6_firstOf_49 rfl 2 rfl ?_
      refine hr_iald hC km10 dX6_firstOf_50 ?_
      refine hr_iload hC dX6_firstOf_51 0 rfl ?_
      refine hr_imul hC dX6_firstOf_53 ?_
      refine hr_sipush (v := 1000) hC dX6_firstOf_54 (by decide) ?_
      refine hr_idiv hC dX6_firstOf_57 (by decide) ?_
      refine hr_iadd hC dX6_firstOf_58 ?_
      exact hr_ireti hC hr dX6_firstOf_59
theorem hmX6_tenantOf_36 : Cond.fieldLink RX6 36 "HeatBillsModel" "bases" "[I" ∈ wsX6_tenantOf := List.mem_of_getElem? (i := 1) rfl
theorem hmX6_tenantOf_39 : Cond.fieldLink RX6 39 "HeatBillsModel" "used" "[I" ∈ wsX6_tenantOf := List.mem_of_getElem? (i := 2) rfl
theorem hiX6_tenantOf_X6 : ∀ w ∈ wsX60, w ∈ wsX6_tenantOf := fun _ h => List.mem_cons_of_mem _ (List.mem_append_right _ h)
def fX6_tenantOf (n : Nat) (p1 : Int32) (p2 : Int32) (p3 : Int32) (p4 : Int32) (μ : hb_m) : Option (Int32 × hb_m) :=
bi (fX6_firstOf n p1 p3 p4 μ) (fun r5 m5 =>
if p2 = 0 then
(some (r5, m5))
else
(if ib p1 8 then
if ib p1 8 then
some ((((rd m5 9 p1.toNatClampNeg) + (rd m5 10 p1.toNatClampNeg)) - r5), m5)
else none
else none))
abbrev rmX6_tenantOf : Room := { frames := 3, cells := 0, slots := 0, locals := 66 }
set_option maxRecDepth 100000 in
set_option maxHeartbeats 4000000 in
theorem tX6_tenantOf {l : Launch} {D : va_G} {ad : Nat → Nat} {dA : Nat → ClassId} (hI : hb_I 12 ad) (n : Nat) (p1 : Int32) (p2 : Int32) (p3 : Int32) (p4 : Int32) (μ : hb_m) : hb_M (hb_Qi vwCl kdM 12 ad D dA) l yX6_tenantOf wsX6_tenantOf rmX6_tenantOf vwCl kdM 12 ad D dA [] [] [.ref (ad 0), .int p1, .int p2, .int p3, .int p4] μ (fX6_tenantOf n p1 p2 p3 p4 μ) := by
  refine hb_start (cc := cX6_tenantOf) (maxL := 6) (ret := (some .int)) (by decide) rfl hI (Nat.le_of_ble_eq_true rfl) [(0, .ref (ad 0)), (1, .int p1), (2, .int p2), (3, .int p3), (4, .int p4)] rfl ?_
  intro p e s m args below meth c hC hr
  rw [fX6_tenantOf]
  refine hr_aload_n hC dX6_tenantOf_0 rfl 0 rfl ?_
  refine hr_iload_n hC dX6_tenantOf_1 rfl 1 rfl ?_
  refine hr_iload_n hC dX6_tenantOf_2 rfl 3 rfl ?_
  refine hr_iload hC dX6_tenantOf_3 4 rfl ?_
  refine hr_callVi (As := [.int p1, .int p3, .int p4]) (k := 0) hC rfl (tX6_firstOf hI n p1 p3 p4 μ) (cwV 3 hC.1.2.2.2.2 gX6_tenantOf_X6_firstOf rfl rfl rfl (by decide +kernel) ⟨Nat.le_of_ble_eq_true rfl, Nat.le_of_ble_eq_true rfl⟩) km0 rfl rfl rfl (Nat.le_of_ble_eq_true rfl) dX6_tenantOf_5 (fun r5 m5 => ?_)
  refine hr_istore (lv' := [(5, .int r5), (0, .ref (ad 0)), (1, .int p1), (2, .int p2), (3, .int p3), (4, .int p4)]) hC dX6_tenantOf_8 (by decide) rfl ?_
  refine hr_iload_n hC dX6_tenantOf_10 rfl 3 rfl ?_
  refine hr_if_eq (tgt := 33) hC dX6_tenantOf_11 (by decide) (fun _ => ?_) (fun _ => ?_)
  · refine hr_iload hC dX6_tenantOf_33 0 rfl ?_
    exact hr_ireti hC hr dX6_tenantOf_35
  · refine hr_aload_n hC dX6_tenantOf_14 rfl 1 rfl ?_
    refine hr_getR hC hiX6_tenantOf_X6 rfl km0 11 (by decide) hmX6_tenantOf_36 rfl dX6_tenantOf_15 ?_
    refine hr_iload_n hC dX6_tenantOf_18 rfl 2 rfl ?_
    refine hr_iald hC km9 dX6_tenantOf_19 ?_
    refine hr_aload_n hC dX6_tenantOf_20 rfl 1 rfl ?_
    refine hr_getR hC hiX6_tenantOf_X6 rfl km0 12 (by decide) hmX6_tenantOf_39 rfl dX6_tenantOf_21 ?_
    refine hr_iload_n hC dX6_tenantOf_24 rfl 2 rfl ?_
    refine hr_iald hC km10 dX6_tenantOf_25 ?_
    refine hr_iadd hC dX6_tenantOf_26 ?_
    refine hr_iload hC dX6_tenantOf_27 0 rfl ?_
    refine hr_isub hC dX6_tenantOf_29 ?_
    refine hr_goto (tgt := 35) hC dX6_tenantOf_30 (by decide) ?_
    exact hr_ireti hC hr dX6_tenantOf_35
theorem hmX6_addFlat_7 : Cond.fieldLink RX6 7 "HeatBillsModel" "s" "[I" ∈ wsX6_addFlat := List.mem_of_getElem? (i := 1) rfl
theorem hiX6_addFlat_X6 : ∀ w ∈ wsX60, w ∈ wsX6_addFlat := fun _ h => List.mem_cons_of_mem _ (List.mem_append_right _ h)
def fX6_addFlat (n : Nat) (p1 : Int32) (μ : hb_m) : Option (Int32 × hb_m) :=
bi (fX6_in n p1 (1 : Int32) (200 : Int32) μ) (fun r5 m5 =>
if r5 = 0 then
(some ((-2 : Int32), m5))
else
(if ib (0 : Int32) 415 then
if (rd m5 1 (0 : Int32).toNatClampNeg) = (8 : Int32) then
(some ((-3 : Int32), m5))
else
(if ib (2 : Int32) 415 then
if (rd m5 1 (2 : Int32).toNatClampNeg) ≤ 0 then
(bv (fX6_records n m5) (fun m43 =>
if ib (((7 : Int32) + ((3 : Int32) * (rd m5 1 (0 : Int32).toNatClampNeg))) + (0 : Int32)) 415 then
if ib (((7 : Int32) + ((3 : Int32) * (rd m5 1 (0 : Int32).toNatClampNeg))) + (1 : Int32)) 415 then
if ib (((7 : Int32) + ((3 : Int32) * (rd m5 1 (0 : Int32).toNatClampNeg))) + (2 : Int32)) 415 then
if ib (0 : Int32) 415 then
if ib (0 : Int32) 415 then
some ((rd m5 1 (0 : Int32).toNatClampNeg), (wr (wr (wr (wr m43 1 (((7 : Int32) + ((3 : Int32) * (rd m5 1 (0 : Int32).toNatClampNeg))) + (0 : Int32)).toNatClampNeg p1) 1 (((7 : Int32) + ((3 : Int32) * (rd m5 1 (0 : Int32).toNatClampNeg))) + (1 : Int32)).toNatClampNeg (0 : Int32)) 1 (((7 : Int32) + ((3 : Int32) * (rd m5 1 (0 : Int32).toNatClampNeg))) + (2 : Int32)).toNatClampNeg (-5 : Int32)) 1 (0 : Int32).toNatClampNeg ((rd (wr (wr (wr m43 1 (((7 : Int32) + ((3 : Int32) * (rd m5 1 (0 : Int32).toNatClampNeg))) + (0 : Int32)).toNatClampNeg p1) 1 (((7 : Int32) + ((3 : Int32) * (rd m5 1 (0 : Int32).toNatClampNeg))) + (1 : Int32)).toNatClampNeg (0 : Int32)) 1 (((7 : Int32) + ((3 : Int32) * (rd m5 1 (0 : Int32).toNatClampNeg))) + (2 : Int32)).toNatClampNeg (-5 : Int32)) 1 (0 : Int32).toNatClampNeg) + (1 : Int32))))
else none
else none
else none
else none
else none))
else
(some ((-4 : Int32), m5))
else none)
else none))
abbrev rmX6_addFlat : Room := { frames := 2, cells := 0, slots := 0, locals := 45 }
set_option maxRecDepth 100000 in
set_option maxHeartbeats 4000000 in
theorem tX6_addFlat {l : Launch} {D : va_G} {ad : Nat → Nat} {dA : Nat → ClassId} (hI : hb_I 12 ad) (n : Nat) (p1 : Int32) (μ : hb_m) : hb_M (hb_Qi vwCl kdM 12 ad D dA) l yX6_addFlat wsX6_addFlat rmX6_addFlat vwCl kdM 12 ad D dA [] [] [.ref (ad 0), .int p1] μ (fX6_addFlat n p1 μ) := by
  refine hb_start (cc := cX6_addFlat) (maxL := 3) (ret := (some .int)) (by decide) rfl hI (Nat.le_of_ble_eq_true rfl) [(0, .ref (ad 0)), (1, .int p1)] rfl ?_
  intro p e s m args below meth c hC hr
  rw [fX6_addFlat]
  refine hr_iload_n hC dX6_addFlat_0 rfl 1 rfl ?_
  refine hr_iconst (v := 1) hC dX6_addFlat_1 (by decide) ?_
  refine hr_sipush (v := 200) hC dX6_addFlat_2 (by decide) ?_
  refine hr_callSi (As := [.int p1, .int (1 : Int32), .int (200 : Int32)]) hC rfl (tX6_in hI n p1 (1 : Int32) (200 : Int32) μ) (va_cwS 3 hC.1.2.2.2.2 gX6_addFlat_X6_in rfl rfl rfl (by decide +kernel) ⟨Nat.le_of_ble_eq_true rfl, Nat.le_of_ble_eq_true rfl⟩) rfl (Nat.le_of_ble_eq_true rfl) dX6_addFlat_5 (fun r5 m5 => ?_)
  refine hr_if_ne (tgt := 14) hC dX6_addFlat_8 (by decide) (fun _ => ?_) (fun _ => ?_)
  · refine hr_bipush (v := -2) hC dX6_addFlat_11 (by decide) ?_
    exact hr_ireti hC hr dX6_addFlat_13
  · refine hr_aload_n hC dX6_addFlat_14 rfl 0 rfl ?_
    refine hr_getR hC hiX6_addFlat_X6 rfl km0 0 (by decide) hmX6_addFlat_7 rfl dX6_addFlat_15 ?_
    refine hr_iconst (v := 0) hC dX6_addFlat_18 (by decide) ?_
    refine hr_iald hC km1 dX6_addFlat_19 ?_
    refine hr_istore_n (lv' := [(2, .int (rd m5 1 (0 : Int32).toNatClampNeg)), (0, .ref (ad 0)), (1, .int p1)]) hC dX6_addFlat_20 rfl (by decide) rfl ?_
    refine hr_iload_n hC dX6_addFlat_21 rfl 0 rfl ?_
    refine hr_bipush (v := 8) hC dX6_addFlat_22 (by decide) ?_
    refine hr_icmp_ne (tgt := 30) hC dX6_addFlat_24 (by decide) (fun _ => ?_) (fun _ => ?_)
    · refine hr_bipush (v := -3) hC dX6_addFlat_27 (by decide) ?_
      exact hr_ireti hC hr dX6_addFlat_29
    · refine hr_aload_n hC dX6_addFlat_30 rfl 1 rfl ?_
      refine hr_getR hC hiX6_addFlat_X6 rfl km0 0 (by decide) hmX6_addFlat_7 rfl dX6_addFlat_31 ?_
      refine hr_iconst (v := 2) hC dX6_addFlat_34 (by decide) ?_
      refine hr_iald hC km1 dX6_addFlat_35 ?_
      refine hr_if_le (tgt := 42) hC dX6_addFlat_36 (by decide) (fun _ => ?_) (fun _ => ?_)
      · refine hr_aload_n hC dX6_addFlat_42 rfl 1 rfl ?_
        refine hr_callVv (As := []) (k := 0) hC rfl (tX6_records hI n m5) (cwV 0 hC.1.2.2.2.2 gX6_addFlat_X6_records rfl rfl rfl (by decide +kernel) ⟨Nat.le_of_ble_eq_true rfl, Nat.le_of_ble_eq_true rfl⟩) km0 rfl rfl rfl (Nat.le_of_ble_eq_true rfl) dX6_addFlat_43 (fun m43 => ?_)
        refine hr_aload_n hC dX6_addFlat_46 rfl 1 rfl ?_
        refine hr_getR hC hiX6_addFlat_X6 rfl km0 0 (by decide) hmX6_addFlat_7 rfl dX6_addFlat_47 ?_
        refine hr_bipush (v := 7) hC dX6_addFlat_50 (by decide) ?_
        refine hr_iconst (v := 3) hC dX6_addFlat_52 (by decide) ?_
        refine hr_iload_n hC dX6_addFlat_53 rfl 0 rfl ?_
        refine hr_imul hC dX6_addFlat_54 ?_
        refine hr_iadd hC dX6_addFlat_55 ?_
        refine hr_iconst (v := 0) hC dX6_addFlat_56 (by decide) ?_
        refine hr_iadd hC dX6_addFlat_57 ?_
        refine hr_iload_n hC dX6_addFlat_58 rfl 2 rfl ?_
        refine hr_iast hC km1 dX6_addFlat_59 ?_
        refine hr_aload_n hC dX6_addFlat_60 rfl 1 rfl ?_
        refine hr_getR hC hiX6_addFlat_X6 rfl km0 0 (by decide) hmX6_addFlat_7 rfl dX6_addFlat_61 ?_
        refine hr_bipush (v := 7) hC dX6_addFlat_64 (by decide) ?_
        refine hr_iconst (v := 3) hC dX6_addFlat_66 (by decide) ?_
        refine hr_iload_n hC dX6_addFlat_67 rfl 0 rfl ?_
        refine hr_imul hC dX6_addFlat_68 ?_
        refine hr_iadd hC dX6_addFlat_69 ?_
        refine hr_iconst (v := 1) hC dX6_addFlat_70 (by decide) ?_
        refine hr_iadd hC dX6_addFlat_71 ?_
        refine hr_iconst (v := 0) hC dX6_addFlat_72 (by decide) ?_
        refine hr_iast hC km1 dX6_addFlat_73 ?_
        refine hr_aload_n hC dX6_addFlat_74 rfl 1 rfl ?_
        refine hr_getR hC hiX6_addFlat_X6 rfl km0 0 (by decide) hmX6_addFlat_7 rfl dX6_addFlat_75 ?_
        refine hr_bipush (v := 7) hC dX6_addFlat_78 (by decide) ?_
        refine hr_iconst (v := 3) hC dX6_addFlat_80 (by decide) ?_
        refine hr_iload_n hC dX6_addFlat_81 rfl 0 rfl ?_
        refine hr_imul hC dX6_addFlat_82 ?_
        refine hr_iadd hC dX6_addFlat_83 ?_
        refine hr_iconst (v := 2) hC dX6_addFlat_84 (by decide) ?_
        refine hr_iadd hC dX6_addFlat_85 ?_
        refine hr_bipush (v := -5) hC dX6_addFlat_86 (by decide) ?_
        refine hr_iast hC km1 dX6_addFlat_88 ?_
        refine hr_aload_n hC dX6_addFlat_89 rfl 1 rfl ?_
        refine hr_getR hC hiX6_addFlat_X6 rfl km0 0 (by decide) hmX6_addFlat_7 rfl dX6_addFlat_90 ?_
        refine hr_iconst (v := 0) hC dX6_addFlat_93 (by decide) ?_
        refine hr_dup2 hC dX6_addFlat_94 rfl rfl ?_
        refine hr_iald hC km1 dX6_addFlat_95 ?_
        refine hr_iconst (v := 1) hC dX6_addFlat_96 (by decide) ?_
        refine hr_iadd hC dX6_addFlat_97 ?_
        refine hr_iast hC km1 dX6_addFlat_98 ?_
        refine hr_iload_n hC dX6_addFlat_99 rfl 0 rfl ?_
        exact hr_ireti hC hr dX6_addFlat_100
      · refine hr_bipush (v := -4) hC dX6_addFlat_39 (by decide) ?_
        exact hr_ireti hC hr dX6_addFlat_41

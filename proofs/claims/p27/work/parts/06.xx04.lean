theorem hmX0_billOfFirst_15 : Cond.fieldLink RX0 15 "HeatBills$Accounts" "baseCosts" "[I" ∈ wsX0_billOfFirst := List.mem_of_getElem? (i := 1) rfl
theorem hmX0_billOfFirst_93 : Cond.fieldLink RX0 93 "HeatBills$Year" "moveMonths" "[I" ∈ wsX0_billOfFirst := List.mem_of_getElem? (i := 2) rfl
theorem hmX0_billOfFirst_18 : Cond.fieldLink RX0 18 "HeatBills$Accounts" "unitCosts" "[I" ∈ wsX0_billOfFirst := List.mem_of_getElem? (i := 3) rfl
theorem hiX0_billOfFirst_X0 : ∀ w ∈ wsX00, w ∈ wsX0_billOfFirst := fun _ h => List.mem_cons_of_mem _ (List.mem_append_left _ (List.mem_append_right _ h))
theorem hiX0_billOfFirst_X4 : ∀ w ∈ wsX40, w ∈ wsX0_billOfFirst := fun _ h => List.mem_cons_of_mem _ (List.mem_append_right _ h)
def fX0_billOfFirst (n : Nat) (c1 : Nat) (p2 : Int32) (μ : hb_m) : Option (Int32 × hb_m) :=
if ib p2 8 then
if ib p2 8 then
if ib p2 8 then
bi (fX4_thousandthsOfFirst n c1 p2 μ) (fun r25 m25 =>
some (((((rd μ 237 p2.toNatClampNeg) * (rd μ (c1 + 1) p2.toNatClampNeg)) / (12 : Int32)) + (((rd μ 238 p2.toNatClampNeg) * r25) / (1000 : Int32))), m25))
else none
else none
else none
abbrev rmX0_billOfFirst : Room := { frames := 2, cells := 0, slots := 0, locals := 43 }
set_option maxRecDepth 100000 in
set_option maxHeartbeats 4000000 in
theorem tX0_billOfFirst {l : Launch} {D : va_G} {ad : Nat → Nat} {dA : Nat → ClassId} {t1 t2 : Nat} (hI : hb_I 241 ad) (n : Nat) (c1 : Nat) (h1 : hx_Y c1) (p2 : Int32) (μ : hb_m) : hb_M (hb_Qi vwCl kdX 241 ad D dA) l yX0_billOfFirst wsX0_billOfFirst rmX0_billOfFirst vwCl kdX 241 ad D dA (tbX t1 t2) nwX [.ref (ad 235), .ref (ad c1), .int p2] μ (fX0_billOfFirst n c1 p2 μ) := by
  refine hb_start (cc := cX0_billOfFirst) (maxL := 5) (ret := (some .int)) (by decide) rfl hI (Nat.le_of_ble_eq_true rfl) [(0, .ref (ad 235)), (1, .ref (ad c1)), (2, .int p2)] rfl ?_
  intro p e s m args below meth c hC hr
  rw [fX0_billOfFirst]
  refine hr_aload_n hC dX0_billOfFirst_0 rfl 0 rfl ?_
  refine hr_getR hC hiX0_billOfFirst_X0 rfl kx235 1 (by decide) hmX0_billOfFirst_15 rfl dX0_billOfFirst_1 ?_
  refine hr_iload_n hC dX0_billOfFirst_4 rfl 2 rfl ?_
  refine hr_iald hC kx237 dX0_billOfFirst_5 ?_
  refine hr_aload_n hC dX0_billOfFirst_6 rfl 1 rfl ?_
  refine hr_getR hC hiX0_billOfFirst_X4 rfl (kxY h1) 3 (by decide) hmX0_billOfFirst_93 rfl dX0_billOfFirst_7 ?_
  refine hr_iload_n hC dX0_billOfFirst_10 rfl 2 rfl ?_
  refine hr_iald hC (kxY1 h1) dX0_billOfFirst_11 ?_
  refine hr_imul hC dX0_billOfFirst_12 ?_
  refine hr_bipush (v := 12) hC dX0_billOfFirst_13 (by decide) ?_
  refine hr_idiv hC dX0_billOfFirst_15 (by decide) ?_
  refine hr_istore_n (lv' := [(3, .int (((rd μ 237 p2.toNatClampNeg) * (rd μ (c1 + 1) p2.toNatClampNeg)) / (12 : Int32))), (0, .ref (ad 235)), (1, .ref (ad c1)), (2, .int p2)]) hC dX0_billOfFirst_16 rfl (by decide) rfl ?_
  refine hr_aload_n hC dX0_billOfFirst_17 rfl 1 rfl ?_
  refine hr_getR hC hiX0_billOfFirst_X0 rfl kx235 2 (by decide) hmX0_billOfFirst_18 rfl dX0_billOfFirst_18 ?_
  refine hr_iload_n hC dX0_billOfFirst_21 rfl 3 rfl ?_
  refine hr_iald hC kx238 dX0_billOfFirst_22 ?_
  refine hr_aload_n hC dX0_billOfFirst_23 rfl 2 rfl ?_
  refine hr_iload_n hC dX0_billOfFirst_24 rfl 3 rfl ?_
  refine hr_callVi (As := [.int p2]) (k := c1) hC rfl (tX4_thousandthsOfFirst (t1 := t1) (t2 := t2) hI n c1 h1 p2 μ) (cwV 1 hC.1.2.2.2.2 gX0_billOfFirst_X4_thousandthsOfFirst rfl rfl rfl (by decide +kernel) ⟨Nat.le_of_ble_eq_true rfl, Nat.le_of_ble_eq_true rfl⟩) (kxY h1) rfl rfl rfl (Nat.le_of_ble_eq_true rfl) dX0_billOfFirst_25 (fun r25 m25 => ?_)
  refine hr_imul hC dX0_billOfFirst_28 ?_
  refine hr_sipush (v := 1000) hC dX0_billOfFirst_29 (by decide) ?_
  refine hr_idiv hC dX0_billOfFirst_32 (by decide) ?_
  refine hr_istore (lv' := [(4, .int (((rd μ 238 p2.toNatClampNeg) * r25) / (1000 : Int32))), (3, .int (((rd μ 237 p2.toNatClampNeg) * (rd μ (c1 + 1) p2.toNatClampNeg)) / (12 : Int32))), (0, .ref (ad 235)), (1, .ref (ad c1)), (2, .int p2)]) hC dX0_billOfFirst_33 (by decide) rfl ?_
  refine hr_iload_n hC dX0_billOfFirst_35 rfl 1 rfl ?_
  refine hr_iload hC dX0_billOfFirst_36 0 rfl ?_
  refine hr_iadd hC dX0_billOfFirst_38 ?_
  exact hr_ireti hC hr dX0_billOfFirst_39
def fX5_tenantOf (n : Nat) (p0 : Int32) (p1 : Int32) (μ : hb_m) : Option (Int32 × hb_m) :=
if p1 = 0 then
(some (((2 : Int32) * p0), μ))
else
(some ((((2 : Int32) * p0) + (1 : Int32)), μ))
abbrev rmX5_tenantOf : Room := { frames := 0, cells := 0, slots := 0, locals := 0 }
set_option maxRecDepth 100000 in
set_option maxHeartbeats 4000000 in
theorem tX5_tenantOf {l : Launch} {D : va_G} {ad : Nat → Nat} {dA : Nat → ClassId} {t1 t2 : Nat} (hI : hb_I 241 ad) (n : Nat) (p0 : Int32) (p1 : Int32) (μ : hb_m) : hb_M (hb_Qi vwCl kdX 241 ad D dA) l yX5_tenantOf wsX5_tenantOf rmX5_tenantOf vwCl kdX 241 ad D dA (tbX t1 t2) nwX [.int p0, .int p1] μ (fX5_tenantOf n p0 p1 μ) := by
  refine hb_start (cc := cX5_tenantOf) (maxL := 2) (ret := (some .int)) (by decide) rfl hI (Nat.le_of_ble_eq_true rfl) [(0, .int p0), (1, .int p1)] rfl ?_
  intro p e s m args below meth c hC hr
  rw [fX5_tenantOf]
  refine hr_iload_n hC dX5_tenantOf_0 rfl 1 rfl ?_
  refine hr_if_eq (tgt := 12) hC dX5_tenantOf_1 (by decide) (fun _ => ?_) (fun _ => ?_)
  · refine hr_iconst (v := 2) hC dX5_tenantOf_12 (by decide) ?_
    refine hr_iload_n hC dX5_tenantOf_13 rfl 0 rfl ?_
    refine hr_imul hC dX5_tenantOf_14 ?_
    exact hr_ireti hC hr dX5_tenantOf_15
  · refine hr_iconst (v := 2) hC dX5_tenantOf_4 (by decide) ?_
    refine hr_iload_n hC dX5_tenantOf_5 rfl 0 rfl ?_
    refine hr_imul hC dX5_tenantOf_6 ?_
    refine hr_iconst (v := 1) hC dX5_tenantOf_7 (by decide) ?_
    refine hr_iadd hC dX5_tenantOf_8 ?_
    refine hr_goto (tgt := 15) hC dX5_tenantOf_9 (by decide) ?_
    exact hr_ireti hC hr dX5_tenantOf_15
theorem hmX0_splitByTenants_21 : Cond.fieldLink RX0 21 "HeatBills$Accounts" "bills" "[I" ∈ wsX0_splitByTenants := List.mem_of_getElem? (i := 1) rfl
theorem hmX0_splitByTenants_58 : Cond.fieldLink RX0 58 "HeatBills$House" "flatCount" "I" ∈ wsX0_splitByTenants := List.mem_of_getElem? (i := 2) rfl
theorem hmX0_splitByTenants_ini_X5_tenantOf : Cond.initialized yX5_tenantOf.cls ∈ wsX0_splitByTenants := List.mem_of_getElem? (i := 31) rfl
theorem hmX0_splitByTenants_sta_X5_tenantOf : Cond.static yX5_tenantOf ∈ wsX0_splitByTenants := List.mem_of_getElem? (i := 34) rfl
theorem hiX0_splitByTenants_X0 : ∀ w ∈ wsX00, w ∈ wsX0_splitByTenants := fun _ h => List.mem_cons_of_mem _ (List.mem_append_left _ (List.mem_append_left _ (List.mem_append_right _ h)))
theorem hiX0_splitByTenants_X2 : ∀ w ∈ wsX20, w ∈ wsX0_splitByTenants := fun _ h => List.mem_cons_of_mem _ (List.mem_append_left _ (List.mem_append_right _ h))
def lX0_splitByTenants_10 (n : Nat) (c1 : Nat) (c2 : Nat) (k : Int32 → hb_m → Option (hb_m)) : Nat → Int32 → hb_m → Option (hb_m)
  | 0, _, _ => none
  | f + 1, x3, μ => if (rd μ c1 0) ≤ x3 then
(k x3 μ)
else
(bi (fX0_billOfFlat n x3 μ) (fun r20 m20 =>
bi (fX4_hasMove n c2 x3 m20) (fun r27 m27 =>
if r27 = 0 then
(bi (fX5_tenantOf n x3 (0 : Int32) m27) (fun r52 m52 =>
if ib r52 16 then
bi (fX5_tenantOf n x3 (1 : Int32) (wr m52 239 r52.toNatClampNeg r20)) (fun r64 m64 =>
if ib r64 16 then
lX0_splitByTenants_10 n c1 c2 k f (x3 + (1 : Int32)) (wr m64 239 r64.toNatClampNeg (r20 - r20))
else none)
else none))
else
(bi (fX0_billOfFirst n c2 x3 m27) (fun r36 m36 =>
bi (fX5_tenantOf n x3 (0 : Int32) m36) (fun r52 m52 =>
if ib r52 16 then
bi (fX5_tenantOf n x3 (1 : Int32) (wr m52 239 r52.toNatClampNeg r36)) (fun r64 m64 =>
if ib r64 16 then
lX0_splitByTenants_10 n c1 c2 k f (x3 + (1 : Int32)) (wr m64 239 r64.toNatClampNeg (r20 - r36))
else none)
else none))))))
def fX0_splitByTenants (n : Nat) (c1 : Nat) (c2 : Nat) (μ : hb_m) : Option (hb_m) :=
bv (fJ7_fill_53178 n 239 (0 : Int32) μ) (fun m5 =>
lX0_splitByTenants_10 n c1 c2 (fun x3_10 m10 =>
some m10) n (0 : Int32) m5)
abbrev rmX0_splitByTenants : Room := { frames := 3, cells := 0, slots := 0, locals := 67 }
set_option maxRecDepth 100000 in
set_option maxHeartbeats 4000000 in
theorem tX0_splitByTenants {l : Launch} {D : va_G} {ad : Nat → Nat} {dA : Nat → ClassId} {t1 t2 : Nat} (hI : hb_I 241 ad) (n : Nat) (c1 : Nat) (h1 : hx_H c1) (c2 : Nat) (h2 : hx_Y c2) (μ : hb_m) : hb_M (hb_Qv vwCl kdX 241 ad D dA) l yX0_splitByTenants wsX0_splitByTenants rmX0_splitByTenants vwCl kdX 241 ad D dA (tbX t1 t2) nwX [.ref (ad 235), .ref (ad c1), .ref (ad c2)] μ (fX0_splitByTenants n c1 c2 μ) := by
  refine hb_start (cc := cX0_splitByTenants) (maxL := 6) (ret := none) (by decide) rfl hI (Nat.le_of_ble_eq_true rfl) [(0, .ref (ad 235)), (1, .ref (ad c1)), (2, .ref (ad c2))] rfl ?_
  intro p e s m args below meth c hC hr
  have L10 : ∀ (k : Int32 → hb_m → Option (hb_m)) (hk : ∀ (x3 : Int32) (μ : hb_m), hb_V p l e rmX0_splitByTenants s m args below meth c 6 vwCl kdX 241 ad D dA (hb_Qv vwCl kdX 241 ad D dA) μ 79 [(3, .int x3), (0, .ref (ad 235)), (1, .ref (ad c1)), (2, .ref (ad c2))] [] (k x3 μ)) (f : Nat) (x3 : Int32) (μ : hb_m), hb_V p l e rmX0_splitByTenants s m args below meth c 6 vwCl kdX 241 ad D dA (hb_Qv vwCl kdX 241 ad D dA) μ 10 [(3, .int x3), (0, .ref (ad 235)), (1, .ref (ad c1)), (2, .ref (ad c2))] [] (lX0_splitByTenants_10 n c1 c2 k f x3 μ) := by
    intro k hk f
    induction f with
    | zero => intro x3 μ; rw [lX0_splitByTenants_10]; exact hr_none
    | succ f ih =>
      intro x3 μ
      rw [lX0_splitByTenants_10]
      refine hr_iload_n hC dX0_splitByTenants_10 rfl 0 rfl ?_
      refine hr_aload_n hC dX0_splitByTenants_11 rfl 2 rfl ?_
      refine hr_getI hC hiX0_splitByTenants_X2 rfl (kxH h1) 0 (by decide) hmX0_splitByTenants_58 rfl dX0_splitByTenants_12 ?_
      refine hr_icmp_ge (tgt := 79) hC dX0_splitByTenants_15 (by decide) (fun _ => ?_) (fun _ => ?_)
      · refine hr_sub (lv' := [(3, .int x3), (0, .ref (ad 235)), (1, .ref (ad c1)), (2, .ref (ad c2))]) [0, 1, 2, 3] rfl ?_
        exact hk _ _
      · refine hr_aload_n hC dX0_splitByTenants_18 rfl 1 rfl ?_
        refine hr_iload_n hC dX0_splitByTenants_19 rfl 0 rfl ?_
        refine hr_callVi (As := [.int x3]) (k := 235) hC rfl (tX0_billOfFlat (t1 := t1) (t2 := t2) hI n x3 μ) (cwV 1 hC.1.2.2.2.2 gX0_splitByTenants_X0_billOfFlat rfl rfl rfl (by decide +kernel) ⟨Nat.le_of_ble_eq_true rfl, Nat.le_of_ble_eq_true rfl⟩) kx235 rfl rfl rfl (Nat.le_of_ble_eq_true rfl) dX0_splitByTenants_20 (fun r20 m20 => ?_)
        refine hr_istore (lv' := [(4, .int r20), (3, .int x3), (0, .ref (ad 235)), (1, .ref (ad c1)), (2, .ref (ad c2))]) hC dX0_splitByTenants_23 (by decide) rfl ?_
        refine hr_aload_n hC dX0_splitByTenants_25 rfl 4 rfl ?_
        refine hr_iload_n hC dX0_splitByTenants_26 rfl 1 rfl ?_
        refine hr_callVi (As := [.int x3]) (k := c2) hC rfl (tX4_hasMove (t1 := t1) (t2 := t2) hI n c2 h2 x3 m20) (cwV 1 hC.1.2.2.2.2 gX0_splitByTenants_X4_hasMove rfl rfl rfl (by decide +kernel) ⟨Nat.le_of_ble_eq_true rfl, Nat.le_of_ble_eq_true rfl⟩) (kxY h2) rfl rfl rfl (Nat.le_of_ble_eq_true rfl) dX0_splitByTenants_27 (fun r27 m27 => ?_)
        refine hr_if_eq (tgt := 42) hC dX0_splitByTenants_30 (by decide) (fun _ => ?_) (fun _ => ?_)
        · refine hr_iload hC dX0_splitByTenants_42 0 rfl ?_
          refine hr_istore (lv' := [(5, .int r20), (4, .int r20), (3, .int x3), (0, .ref (ad 235)), (1, .ref (ad c1)), (2, .ref (ad c2))]) hC dX0_splitByTenants_44 (by decide) rfl ?_
          refine hr_aload_n hC dX0_splitByTenants_46 rfl 3 rfl ?_
          refine hr_getR hC hiX0_splitByTenants_X0 rfl kx235 3 (by decide) hmX0_splitByTenants_21 rfl dX0_splitByTenants_47 ?_
          refine hr_iload_n hC dX0_splitByTenants_50 rfl 2 rfl ?_
          refine hr_iconst (v := 0) hC dX0_splitByTenants_51 (by decide) ?_
          refine hr_callSNi (As := [.int x3, .int (0 : Int32)]) hC rfl (tX5_tenantOf (t1 := t1) (t2 := t2) hI n x3 (0 : Int32) m27) ⟨va_cnB 2 hC.1.2.2.2.2 gX0_splitByTenants_X5_tenantOf_n89 rfl rfl rfl (hC.2.2.2.2.1 _ nwX_1) (hC.1.2.2.2.2 _ hmX0_splitByTenants_ini_X5_tenantOf) (by decide +kernel) ⟨Nat.le_of_ble_eq_true rfl, Nat.le_of_ble_eq_true rfl⟩, hC.1.2.2.2.2 _ hmX0_splitByTenants_sta_X5_tenantOf, trivial⟩ rfl (Nat.le_of_ble_eq_true rfl) dX0_splitByTenants_52 (fun r52 m52 => ?_)
          refine hr_iload hC dX0_splitByTenants_55 0 rfl ?_
          refine hr_iast hC kx239 dX0_splitByTenants_57 ?_
          refine hr_aload_n hC dX0_splitByTenants_58 rfl 3 rfl ?_
          refine hr_getR hC hiX0_splitByTenants_X0 rfl kx235 3 (by decide) hmX0_splitByTenants_21 rfl dX0_splitByTenants_59 ?_
          refine hr_iload_n hC dX0_splitByTenants_62 rfl 2 rfl ?_
          refine hr_iconst (v := 1) hC dX0_splitByTenants_63 (by decide) ?_
          refine hr_callSNi (As := [.int x3, .int (1 : Int32)]) hC rfl (tX5_tenantOf (t1 := t1) (t2 := t2) hI n x3 (1 : Int32) (wr m52 239 r52.toNatClampNeg r20)) ⟨va_cnB 2 hC.1.2.2.2.2 gX0_splitByTenants_X5_tenantOf_n89 rfl rfl rfl (hC.2.2.2.2.1 _ nwX_1) (hC.1.2.2.2.2 _ hmX0_splitByTenants_ini_X5_tenantOf) (by decide +kernel) ⟨Nat.le_of_ble_eq_true rfl, Nat.le_of_ble_eq_true rfl⟩, hC.1.2.2.2.2 _ hmX0_splitByTenants_sta_X5_tenantOf, trivial⟩ rfl (Nat.le_of_ble_eq_true rfl) dX0_splitByTenants_64 (fun r64 m64 => ?_)
          refine hr_iload hC dX0_splitByTenants_67 1 rfl ?_
          refine hr_iload hC dX0_splitByTenants_69 0 rfl ?_
          refine hr_isub hC dX0_splitByTenants_71 ?_
          refine hr_iast hC kx239 dX0_splitByTenants_72 ?_
          refine hr_iinc (v := (x3 + (1 : Int32))) (lv' := [(3, .int (x3 + (1 : Int32))), (5, .int r20), (4, .int r20), (0, .ref (ad 235)), (1, .ref (ad c1)), (2, .ref (ad c2))]) (kx := 2) hC dX0_splitByTenants_73 rfl rfl (by decide) rfl ?_
          refine hr_goto (tgt := 10) hC dX0_splitByTenants_76 (by decide) ?_
          refine hr_sub (lv' := [(3, .int (x3 + (1 : Int32))), (0, .ref (ad 235)), (1, .ref (ad c1)), (2, .ref (ad c2))]) [0, 3, 4, 5] rfl ?_
          exact ih _ _
        · refine hr_aload_n hC dX0_splitByTenants_33 rfl 2 rfl ?_
          refine hr_aload_n hC dX0_splitByTenants_34 rfl 4 rfl ?_
          refine hr_iload_n hC dX0_splitByTenants_35 rfl 1 rfl ?_
          refine hr_callVi (As := [.ref (ad c2), .int x3]) (k := 235) hC rfl (tX0_billOfFirst (t1 := t1) (t2 := t2) hI n c2 h2 x3 m27) (cwV 2 hC.1.2.2.2.2 gX0_splitByTenants_X0_billOfFirst rfl rfl rfl (by decide +kernel) ⟨Nat.le_of_ble_eq_true rfl, Nat.le_of_ble_eq_true rfl⟩) kx235 rfl rfl rfl (Nat.le_of_ble_eq_true rfl) dX0_splitByTenants_36 (fun r36 m36 => ?_)
          refine hr_goto (tgt := 44) hC dX0_splitByTenants_39 (by decide) ?_
          refine hr_istore (lv' := [(5, .int r36), (4, .int r20), (3, .int x3), (0, .ref (ad 235)), (1, .ref (ad c1)), (2, .ref (ad c2))]) hC dX0_splitByTenants_44 (by decide) rfl ?_
          refine hr_aload_n hC dX0_splitByTenants_46 rfl 3 rfl ?_
          refine hr_getR hC hiX0_splitByTenants_X0 rfl kx235 3 (by decide) hmX0_splitByTenants_21 rfl dX0_splitByTenants_47 ?_
          refine hr_iload_n hC dX0_splitByTenants_50 rfl 2 rfl ?_
          refine hr_iconst (v := 0) hC dX0_splitByTenants_51 (by decide) ?_
          refine hr_callSNi (As := [.int x3, .int (0 : Int32)]) hC rfl (tX5_tenantOf (t1 := t1) (t2 := t2) hI n x3 (0 : Int32) m36) ⟨va_cnB 2 hC.1.2.2.2.2 gX0_splitByTenants_X5_tenantOf_n89 rfl rfl rfl (hC.2.2.2.2.1 _ nwX_1) (hC.1.2.2.2.2 _ hmX0_splitByTenants_ini_X5_tenantOf) (by decide +kernel) ⟨Nat.le_of_ble_eq_true rfl, Nat.le_of_ble_eq_true rfl⟩, hC.1.2.2.2.2 _ hmX0_splitByTenants_sta_X5_tenantOf, trivial⟩ rfl (Nat.le_of_ble_eq_true rfl) dX0_splitByTenants_52 (fun r52 m52 => ?_)
          refine hr_iload hC dX0_splitByTenants_55 0 rfl ?_
          refine hr_iast hC kx239 dX0_splitByTenants_57 ?_
          refine hr_aload_n hC dX0_splitByTenants_58 rfl 3 rfl ?_
          refine hr_getR hC hiX0_splitByTenants_X0 rfl kx235 3 (by decide) hmX0_splitByTenants_21 rfl dX0_splitByTenants_59 ?_
          refine hr_iload_n hC dX0_splitByTenants_62 rfl 2 rfl ?_
          refine hr_iconst (v := 1) hC dX0_splitByTenants_63 (by decide) ?_
          refine hr_callSNi (As := [.int x3, .int (1 : Int32)]) hC rfl (tX5_tenantOf (t1 := t1) (t2 := t2) hI n x3 (1 : Int32) (wr m52 239 r52.toNatClampNeg r36)) ⟨va_cnB 2 hC.1.2.2.2.2 gX0_splitByTenants_X5_tenantOf_n89 rfl rfl rfl (hC.2.2.2.2.1 _ nwX_1) (hC.1.2.2.2.2 _ hmX0_splitByTenants_ini_X5_tenantOf) (by decide +kernel) ⟨Nat.le_of_ble_eq_true rfl, Nat.le_of_ble_eq_true rfl⟩, hC.1.2.2.2.2 _ hmX0_splitByTenants_sta_X5_tenantOf, trivial⟩ rfl (Nat.le_of_ble_eq_true rfl) dX0_splitByTenants_64 (fun r64 m64 => ?_)
          refine hr_iload hC dX0_splitByTenants_67 1 rfl ?_
          refine hr_iload hC dX0_splitByTenants_69 0 rfl ?_
          refine hr_isub hC dX0_splitByTenants_71 ?_
          refine hr_iast hC kx239 dX0_splitByTenants_72 ?_
          refine hr_iinc (v := (x3 + (1 : Int32))) (lv' := [(3, .int (x3 + (1 : Int32))), (5, .int r36), (4, .int r20), (0, .ref (ad 235)), (1, .ref (ad c1)), (2, .ref (ad c2))]) (kx := 2) hC dX0_splitByTenants_73 rfl rfl (by decide) rfl ?_
          refine hr_goto (tgt := 10) hC dX0_splitByTenants_76 (by decide) ?_
          refine hr_sub (lv' := [(3, .int (x3 + (1 : Int32))), (0, .ref (ad 235)), (1, .ref (ad c1)), (2, .ref (ad c2))]) [0, 3, 4, 5] rfl ?_
          exact ih _ _
  rw [fX0_splitByTenants]
  refine hr_aload_n hC dX0_splitByTenants_0 rfl 0 rfl ?_
  refine hr_getR hC hiX0_splitByTenants_X0 rfl kx235 3 (by decide) hmX0_splitByTenants_21 rfl dX0_splitByTenants_1 ?_
  refine hr_iconst (v := 0) hC dX0_splitByTenants_4 (by decide) ?_
  refine hr_callSv (As := [.ref (ad 239), .int (0 : Int32)]) hC rfl (tJ7_fill_53178 (t1 := t1) (t2 := t2) hI n 239 (hx_Io kx239) (0 : Int32) μ) (va_cwS 2 hC.1.2.2.2.2 gX0_splitByTenants_J7_fill_53178 rfl rfl rfl (by decide +kernel) ⟨Nat.le_of_ble_eq_true rfl, Nat.le_of_ble_eq_true rfl⟩) rfl (Nat.le_of_ble_eq_true rfl) dX0_splitByTenants_5 (fun m5 => ?_)
  refine hr_iconst (v := 0) hC dX0_splitByTenants_8 (by decide) ?_
  refine hr_istore_n (lv' := [(3, .int (0 : Int32)), (0, .ref (ad 235)), (1, .ref (ad c1)), (2, .ref (ad c2))]) hC dX0_splitByTenants_9 rfl (by decide) rfl ?_
  refine hr_sub (lv' := [(3, .int (0 : Int32)), (0, .ref (ad 235)), (1, .ref (ad c1)), (2, .ref (ad c2))]) [0, 1, 2, 3] rfl ?_
  refine L10 _ (fun x3_10 m10 => ?_) _ _ _
  exact hr_vret hC hr dX0_splitByTenants_79
theorem hmX4_startAnew_9 : Cond.fieldLink RX4 9 "HeatBills$Year" "cost" "I" ∈ wsX4_startAnew := List.mem_of_getElem? (i := 1) rfl
theorem hmX4_startAnew_21 : Cond.fieldLink RX4 21 "HeatBills$Year" "moveMonths" "[I" ∈ wsX4_startAnew := List.mem_of_getElem? (i := 2) rfl
theorem hmX4_startAnew_25 : Cond.fieldLink RX4 25 "HeatBills$Year" "parts" "[I" ∈ wsX4_startAnew := List.mem_of_getElem? (i := 3) rfl
theorem hiX4_startAnew_X4 : ∀ w ∈ wsX40, w ∈ wsX4_startAnew := fun _ h => List.mem_cons_of_mem _ (List.mem_append_right _ h)
def fX4_startAnew (n : Nat) (c0 : Nat) (μ : hb_m) : Option (hb_m) :=
bv (fJ7_fill_53178 n (c0 + 1) (-5 : Int32) (wr μ c0 0 (0 : Int32))) (fun m11 =>
bv (fJ7_fill_53178 n (c0 + 2) (-5 : Int32) m11) (fun m20 =>
some m20))
abbrev rmX4_startAnew : Room := { frames := 1, cells := 0, slots := 0, locals := 23 }
set_option maxRecDepth 100000 in
set_option maxHeartbeats 4000000 in
theorem tX4_startAnew {l : Launch} {D : va_G} {ad : Nat → Nat} {dA : Nat → ClassId} {t1 t2 : Nat} (hI : hb_I 241 ad) (n : Nat) (c0 : Nat) (h0 : hx_Y c0) (μ : hb_m) : hb_M (hb_Qv vwCl kdX 241 ad D dA) l yX4_startAnew wsX4_startAnew rmX4_startAnew vwCl kdX 241 ad D dA (tbX t1 t2) nwX [.ref (ad c0)] μ (fX4_startAnew n c0 μ) := by
  refine hb_start (cc := cX4_startAnew) (maxL := 1) (ret := none) (by decide) rfl hI (Nat.le_of_ble_eq_true rfl) [(0, .ref (ad c0))] rfl ?_
  intro p e s m args below meth c hC hr
  rw [fX4_startAnew]
  refine hr_aload_n hC dX4_startAnew_0 rfl 0 rfl ?_
  refine hr_iconst (v := 0) hC dX4_startAnew_1 (by decide) ?_
  refine hr_putI hC hiX4_startAnew_X4 rfl (kxY h0) 0 (by decide) hmX4_startAnew_9 tyX4_ok nmX4 rfl rfl rfl rfl dX4_startAnew_2 ?_
  refine hr_aload_n hC dX4_startAnew_5 rfl 0 rfl ?_
  refine hr_getR hC hiX4_startAnew_X4 rfl (kxY h0) 3 (by decide) hmX4_startAnew_21 rfl dX4_startAnew_6 ?_
  refine hr_bipush (v := -5) hC dX4_startAnew_9 (by decide) ?_
  refine hr_callSv (As := [.ref (ad (c0 + 1)), .int (-5 : Int32)]) hC rfl (tJ7_fill_53178 (t1 := t1) (t2 := t2) hI n (c0 + 1) (hx_Io (kxY1 h0)) (-5 : Int32) (wr μ c0 0 (0 : Int32))) (va_cwS 2 hC.1.2.2.2.2 gX4_startAnew_J7_fill_53178 rfl rfl rfl (by decide +kernel) ⟨Nat.le_of_ble_eq_true rfl, Nat.le_of_ble_eq_true rfl⟩) rfl (Nat.le_of_ble_eq_true rfl) dX4_startAnew_11 (fun m11 => ?_)
  refine hr_aload_n hC dX4_startAnew_14 rfl 0 rfl ?_
  refine hr_getR hC hiX4_startAnew_X4 rfl (kxY h0) 4 (by decide) hmX4_startAnew_25 rfl dX4_startAnew_15 ?_
  refine hr_bipush (v := -5) hC dX4_startAnew_18 (by decide) ?_
  refine hr_callSv (As := [.ref (ad (c0 + 2)), .int (-5 : Int32)]) hC rfl (tJ7_fill_53178 (t1 := t1) (t2 := t2) hI n (c0 + 2) (hx_Io (kxY2 h0)) (-5 : Int32) m11) (va_cwS 2 hC.1.2.2.2.2 gX4_startAnew_J7_fill_53178 rfl rfl rfl (by decide +kernel) ⟨Nat.le_of_ble_eq_true rfl, Nat.le_of_ble_eq_true rfl⟩) rfl (Nat.le_of_ble_eq_true rfl) dX4_startAnew_20 (fun m20 => ?_)
  exact hr_vret hC hr dX4_startAnew_23
theorem hmX2_closeWith_48 : Cond.fieldLink RX2 48 "HeatBills$House" "closedCount" "I" ∈ wsX2_closeWith := List.mem_of_getElem? (i := 1) rfl
theorem hmX2_closeWith_51 : Cond.fieldLink RX2 51 "HeatBills$House" "closedYears" "[LHeatBills$Year;" ∈ wsX2_closeWith := List.mem_of_getElem? (i := 2) rfl
theorem hmX2_closeWith_44 : Cond.fieldLink RX2 44 "HeatBills$House" "openYear" "LHeatBills$Year;" ∈ wsX2_closeWith := List.mem_of_getElem? (i := 3) rfl
theorem hmX2_closeWith_78 : Cond.fieldLink RX2 78 "HeatBills$Year" "bills" "[I" ∈ wsX2_closeWith := List.mem_of_getElem? (i := 4) rfl
theorem hmX2_closeWith_55a : Cond.methodLink RX2 55 arraycopyName ∈ wsX2_closeWith := List.mem_of_getElem? (i := 5) rfl
theorem hmX2_closeWith_nat : Cond.native arraycopyName ∈ wsX2_closeWith := List.mem_of_getElem? (i := 6) rfl
theorem hmX2_closeWith_sta : Cond.static arraycopyName ∈ wsX2_closeWith := List.mem_of_getElem? (i := 7) rfl
theorem hmX2_closeWith_ini : Cond.initialized "java/lang/System" ∈ wsX2_closeWith := List.mem_of_getElem? (i := 8) rfl
theorem hmX2_closeWith_28 : Cond.fieldLink RX2 28 "HeatBills$House" "endReadings" "[I" ∈ wsX2_closeWith := List.mem_of_getElem? (i := 9) rfl
theorem hmX2_closeWith_25 : Cond.fieldLink RX2 25 "HeatBills$House" "beginReadings" "[I" ∈ wsX2_closeWith := List.mem_of_getElem? (i := 10) rfl
theorem hiX2_closeWith_X2 : ∀ w ∈ wsX20, w ∈ wsX2_closeWith := fun _ h => List.mem_cons_of_mem _ (List.mem_append_left _ (List.mem_append_right _ h))
theorem hiX2_closeWith_X4 : ∀ w ∈ wsX40, w ∈ wsX2_closeWith := fun _ h => List.mem_cons_of_mem _ (List.mem_append_right _ h)
def fX2_closeWith (n : Nat) (c0 : Nat) (c1 : Nat) (μ : hb_m) : Option (Int32 × hb_m) :=
if ib (rd μ c0 10) 4 then
bv (fX4_copyFrom n (c0 + 14 + 6 * (rd μ c0 10).toNatClampNeg) (c0 + 8) μ) (fun m17 =>
if cb .int m17 c1 16 (hx_n c1) 16 then
bv (fX4_startAnew n (c0 + 8) (wr (cpA m17 c1 ((c0 + 14 + 6 * (rd μ c0 10).toNatClampNeg) + 4) 16) c0 10 ((rd μ c0 10) + (1 : Int32)))) (fun m43 =>
if cb .int m43 (c0 + 5) 20 20 20 then
some ((rd μ c0 10), (cpA m43 (c0 + 5) (c0 + 4) 20))
else none)
else none)
else none
abbrev rmX2_closeWith : Room := { frames := 2, cells := 0, slots := 0, locals := 51 }
set_option maxRecDepth 100000 in
set_option maxHeartbeats 4000000 in
theorem tX2_closeWith {l : Launch} {D : va_G} {ad : Nat → Nat} {dA : Nat → ClassId} {t1 t2 : Nat} (hI : hb_I 241 ad) (n : Nat) (c0 : Nat) (h0 : hx_H c0) (c1 : Nat) (h1 : hx_I c1) (μ : hb_m) : hb_M (hb_Qi vwCl kdX 241 ad D dA) l yX2_closeWith wsX2_closeWith rmX2_closeWith vwCl kdX 241 ad D dA (tbX t1 t2) nwX [.ref (ad c0), .ref (ad c1)] μ (fX2_closeWith n c0 c1 μ) := by
  refine hb_start (cc := cX2_closeWith) (maxL := 4) (ret := (some .int)) (by decide) rfl hI (Nat.le_of_ble_eq_true rfl) [(0, .ref (ad c0)), (1, .ref (ad c1))] rfl ?_
  intro p e s m args below meth c hC hr
  rw [fX2_closeWith]
  refine hr_aload_n hC dX2_closeWith_0 rfl 0 rfl ?_
  refine hr_getI hC hiX2_closeWith_X2 rfl (kxH h0) 10 (by decide) hmX2_closeWith_48 rfl dX2_closeWith_1 ?_
  refine hr_istore_n (lv' := [(2, .int (rd μ c0 10)), (0, .ref (ad c0)), (1, .ref (ad c1))]) hC dX2_closeWith_4 rfl (by decide) rfl ?_
  refine hr_aload_n hC dX2_closeWith_5 rfl 1 rfl ?_
  refine hr_getR hC hiX2_closeWith_X2 rfl (kxH h0) 11 (by decide) hmX2_closeWith_51 rfl dX2_closeWith_6 ?_
  refine hr_iload_n hC dX2_closeWith_9 rfl 0 rfl ?_
  refine hr_aald hC (fun j => c0 + 14 + 6 * j) 4 (kxH7 h0) rfl (kxH7c c0) dX2_closeWith_10 (fun hlt10 => ?_)
  refine hr_astore_n (lv' := [(3, .ref (ad (c0 + 14 + 6 * (rd μ c0 10).toNatClampNeg))), (2, .int (rd μ c0 10)), (0, .ref (ad c0)), (1, .ref (ad c1))]) hC dX2_closeWith_11 rfl (by decide) rfl ?_
  refine hr_aload_n hC dX2_closeWith_12 rfl 0 rfl ?_
  refine hr_aload_n hC dX2_closeWith_13 rfl 2 rfl ?_
  refine hr_getR hC hiX2_closeWith_X2 rfl (kxH h0) 9 (by decide) hmX2_closeWith_44 rfl dX2_closeWith_14 ?_
  refine hr_callVv (As := [.ref (ad (c0 + 8))]) (k := (c0 + 14 + 6 * (rd μ c0 10).toNatClampNeg)) hC rfl (tX4_copyFrom (t1 := t1) (t2 := t2) hI n (c0 + 14 + 6 * (rd μ c0 10).toNatClampNeg) (hx_Yc h0 hlt10) (c0 + 8) (hx_Yo h0) μ) (cwV 1 hC.1.2.2.2.2 gX2_closeWith_X4_copyFrom rfl rfl rfl (by decide +kernel) ⟨Nat.le_of_ble_eq_true rfl, Nat.le_of_ble_eq_true rfl⟩) (kxY (hx_Yc h0 hlt10)) rfl rfl rfl (Nat.le_of_ble_eq_true rfl) dX2_closeWith_17 (fun m17 => ?_)
  refine hr_aload_n hC dX2_closeWith_20 rfl 3 rfl ?_
  refine hr_iconst (v := 0) hC dX2_closeWith_21 (by decide) ?_
  refine hr_aload_n hC dX2_closeWith_22 rfl 0 rfl ?_
  refine hr_getR hC hiX2_closeWith_X4 rfl (kxY (hx_Yc h0 hlt10)) 6 (by decide) hmX2_closeWith_78 rfl dX2_closeWith_23 ?_
  refine hr_iconst (v := 0) hC dX2_closeWith_26 (by decide) ?_
  refine hr_bipush (v := 16) hC dX2_closeWith_27 (by decide) ?_
  refine hr_copy (n := 16) hC hmX2_closeWith_55a hmX2_closeWith_nat hmX2_closeWith_sta hmX2_closeWith_ini h1 (kxY4 (hx_Yc h0 hlt10)) rfl rfl (by decide) ⟨Nat.le_of_ble_eq_true rfl, Nat.le_of_ble_eq_true rfl⟩ dX2_closeWith_29 ?_
  refine hr_aload_n hC dX2_closeWith_32 rfl 2 rfl ?_
  refine hr_iload_n hC dX2_closeWith_33 rfl 1 rfl ?_
  refine hr_iconst (v := 1) hC dX2_closeWith_34 (by decide) ?_
  refine hr_iadd hC dX2_closeWith_35 ?_
  refine hr_putI hC hiX2_closeWith_X2 rfl (kxH h0) 10 (by decide) hmX2_closeWith_48 tyX2_ok nmX2 rfl rfl rfl rfl dX2_closeWith_36 ?_
  refine hr_aload_n hC dX2_closeWith_39 rfl 2 rfl ?_
  refine hr_getR hC hiX2_closeWith_X2 rfl (kxH h0) 9 (by decide) hmX2_closeWith_44 rfl dX2_closeWith_40 ?_
  refine hr_callVv (As := []) (k := (c0 + 8)) hC rfl (tX4_startAnew (t1 := t1) (t2 := t2) hI n (c0 + 8) (hx_Yo h0) (wr (cpA m17 c1 ((c0 + 14 + 6 * (rd μ c0 10).toNatClampNeg) + 4) 16) c0 10 ((rd μ c0 10) + (1 : Int32)))) (cwV 0 hC.1.2.2.2.2 gX2_closeWith_X4_startAnew rfl rfl rfl (by decide +kernel) ⟨Nat.le_of_ble_eq_true rfl, Nat.le_of_ble_eq_true rfl⟩) (kxY (hx_Yo h0)) rfl rfl rfl (Nat.le_of_ble_eq_true rfl) dX2_closeWith_43 (fun m43 => ?_)
  refine hr_aload_n hC dX2_closeWith_46 rfl 2 rfl ?_
  refine hr_getR hC hiX2_closeWith_X2 rfl (kxH h0) 5 (by decide) hmX2_closeWith_28 rfl dX2_closeWith_47 ?_
  refine hr_iconst (v := 0) hC dX2_closeWith_50 (by decide) ?_
  refine hr_aload_n hC dX2_closeWith_51 rfl 2 rfl ?_
  refine hr_getR hC hiX2_closeWith_X2 rfl (kxH h0) 4 (by decide) hmX2_closeWith_25 rfl dX2_closeWith_52 ?_
  refine hr_iconst (v := 0) hC dX2_closeWith_55 (by decide) ?_
  refine hr_bipush (v := 20) hC dX2_closeWith_56 (by decide) ?_
  refine hr_copy (n := 20) hC hmX2_closeWith_55a hmX2_closeWith_nat hmX2_closeWith_sta hmX2_closeWith_ini (kxH5 h0) (kxH4 h0) rfl rfl (by decide) ⟨Nat.le_of_ble_eq_true rfl, Nat.le_of_ble_eq_true rfl⟩ dX2_closeWith_58 ?_
  refine hr_iload_n hC dX2_closeWith_61 rfl 1 rfl ?_
  exact hr_ireti hC hr dX2_closeWith_62
theorem hmX5_close_12 : Cond.fieldLink RX5 12 "HeatBills" "now" "LHeatBills$House;" ∈ wsX5_close := List.mem_of_getElem? (i := 1) rfl
theorem hmX5_close_48 : Cond.fieldLink RX5 48 "HeatBills$House" "closedCount" "I" ∈ wsX5_close := List.mem_of_getElem? (i := 2) rfl
theorem hmX5_close_44 : Cond.fieldLink RX5 44 "HeatBills$House" "flatCount" "I" ∈ wsX5_close := List.mem_of_getElem? (i := 3) rfl
theorem hmX5_close_26 : Cond.fieldLink RX5 26 "HeatBills" "history" "LHeatBills$History;" ∈ wsX5_close := List.mem_of_getElem? (i := 4) rfl
theorem hmX5_close_40 : Cond.fieldLink RX5 40 "HeatBills" "accounts" "LHeatBills$Accounts;" ∈ wsX5_close := List.mem_of_getElem? (i := 5) rfl
theorem hmX5_close_63 : Cond.fieldLink RX5 63 "HeatBills$House" "openYear" "LHeatBills$Year;" ∈ wsX5_close := List.mem_of_getElem? (i := 6) rfl
theorem hmX5_close_151 : Cond.fieldLink RX5 151 "HeatBills$Accounts" "bills" "[I" ∈ wsX5_close := List.mem_of_getElem? (i := 7) rfl
theorem hiX5_close_X5 : ∀ w ∈ wsX50, w ∈ wsX5_close := fun _ h => List.mem_cons_of_mem _ (List.mem_append_left _ (List.mem_append_left _ (List.mem_append_left _ (List.mem_append_left _ (List.mem_append_right _ h)))))
theorem hiX5_close_X2 : ∀ w ∈ wsX20, w ∈ wsX5_close := fun _ h => List.mem_cons_of_mem _ (List.mem_append_left _ (List.mem_append_left _ (List.mem_append_left _ (List.mem_append_right _ h))))
theorem hiX5_close_X0 : ∀ w ∈ wsX00, w ∈ wsX5_close := fun _ h => List.mem_cons_of_mem _ (List.mem_append_left _ (List.mem_append_left _ (List.mem_append_right _ h)))
def fX5_close (n : Nat) (μ : hb_m) : Option (Int32 × hb_m) :=
if (rd μ 0 10) < (4 : Int32) then
(if (1 : Int32) ≤ (rd μ 0 0) then
(bv (fX1_remember n 0 μ) (fun m36 =>
bv (fX5_drawUpOpenYear n m36) (fun m40 =>
bv (fX0_splitByTenants n 0 (0 + 8) m40) (fun m58 =>
bi (fX2_closeWith n 0 239 m58) (fun r72 m72 =>
some (r72, m72))))))
else
(some ((-4 : Int32), μ)))
else
(some ((-3 : Int32), μ))
abbrev rmX5_close : Room := { frames := 5, cells := 0, slots := 0, locals := 121 }
set_option maxRecDepth 100000 in
set_option maxHeartbeats 4000000 in
theorem tX5_close {l : Launch} {D : va_G} {ad : Nat → Nat} {dA : Nat → ClassId} {t1 t2 : Nat} (hI : hb_I 241 ad) (n : Nat) (μ : hb_m) : hb_M (hb_Qi vwCl kdX 241 ad D dA) l yX5_close wsX5_close rmX5_close vwCl kdX 241 ad D dA (tbX t1 t2) nwX [.ref (ad 228)] μ (fX5_close n μ) := by
  refine hb_start (cc := cX5_close) (maxL := 1) (ret := (some .int)) (by decide) rfl hI (Nat.le_of_ble_eq_true rfl) [(0, .ref (ad 228))] rfl ?_
  intro p e s m args below meth c hC hr
  rw [fX5_close]
  refine hr_aload_n hC dX5_close_0 rfl 0 rfl ?_
  refine hr_getR hC hiX5_close_X5 rfl kx228 0 (by decide) hmX5_close_12 rfl dX5_close_1 ?_
  refine hr_getI hC hiX5_close_X2 rfl (kxH hx_H0) 10 (by decide) hmX5_close_48 rfl dX5_close_4 ?_
  refine hr_iconst (v := 4) hC dX5_close_7 (by decide) ?_
  refine hr_icmp_lt (tgt := 14) hC dX5_close_8 (by decide) (fun _ => ?_) (fun _ => ?_)
  · refine hr_aload_n hC dX5_close_14 rfl 0 rfl ?_
    refine hr_getR hC hiX5_close_X5 rfl kx228 0 (by decide) hmX5_close_12 rfl dX5_close_15 ?_
    refine hr_getI hC hiX5_close_X2 rfl (kxH hx_H0) 0 (by decide) hmX5_close_44 rfl dX5_close_18 ?_
    refine hr_iconst (v := 1) hC dX5_close_21 (by decide) ?_
    refine hr_icmp_ge (tgt := 28) hC dX5_close_22 (by decide) (fun _ => ?_) (fun _ => ?_)
    · refine hr_aload_n hC dX5_close_28 rfl 0 rfl ?_
      refine hr_getR hC hiX5_close_X5 rfl kx228 3 (by decide) hmX5_close_26 rfl dX5_close_29 ?_
      refine hr_aload_n hC dX5_close_32 rfl 0 rfl ?_
      refine hr_getR hC hiX5_close_X5 rfl kx228 0 (by decide) hmX5_close_12 rfl dX5_close_33 ?_
      refine hr_callVv (As := [.ref (ad 0)]) (k := 229) hC rfl (tX1_remember (t1 := t1) (t2 := t2) hI n 0 hx_H0 μ) (cwV 1 hC.1.2.2.2.2 gX5_close_X1_remember rfl rfl rfl (by decide +kernel) ⟨Nat.le_of_ble_eq_true rfl, Nat.le_of_ble_eq_true rfl⟩) kx229 rfl rfl rfl (Nat.le_of_ble_eq_true rfl) dX5_close_36 (fun m36 => ?_)
      refine hr_aload_n hC dX5_close_39 rfl 0 rfl ?_
      refine hr_callVv (As := []) (k := 228) hC rfl (tX5_drawUpOpenYear (t1 := t1) (t2 := t2) hI n m36) (cwV 0 hC.1.2.2.2.2 gX5_close_X5_drawUpOpenYear rfl rfl rfl (by decide +kernel) ⟨Nat.le_of_ble_eq_true rfl, Nat.le_of_ble_eq_true rfl⟩) kx228 rfl rfl rfl (Nat.le_of_ble_eq_true rfl) dX5_close_40 (fun m40 => ?_)
      refine hr_aload_n hC dX5_close_43 rfl 0 rfl ?_
      refine hr_getR hC hiX5_close_X5 rfl kx228 5 (by decide) hmX5_close_40 rfl dX5_close_44 ?_
      refine hr_aload_n hC dX5_close_47 rfl 0 rfl ?_
      refine hr_getR hC hiX5_close_X5 rfl kx228 0 (by decide) hmX5_close_12 rfl dX5_close_48 ?_
      refine hr_aload_n hC dX5_close_51 rfl 0 rfl ?_
      refine hr_getR hC hiX5_close_X5 rfl kx228 0 (by decide) hmX5_close_12 rfl dX5_close_52 ?_
      refine hr_getR hC hiX5_close_X2 rfl (kxH hx_H0) 9 (by decide) hmX5_close_63 rfl dX5_close_55 ?_
      refine hr_callVv (As := [.ref (ad 0), .ref (ad (0 + 8))]) (k := 235) hC rfl (tX0_splitByTenants (t1 := t1) (t2 := t2) hI n 0 hx_H0 (0 + 8) (hx_Yo hx_H0) m40) (cwV 2 hC.1.2.2.2.2 gX5_close_X0_splitByTenants rfl rfl rfl (by decide +kernel) ⟨Nat.le_of_ble_eq_true rfl, Nat.le_of_ble_eq_true rfl⟩) kx235 rfl rfl rfl (Nat.le_of_ble_eq_true rfl) dX5_close_58 (fun m58 => ?_)
      refine hr_aload_n hC dX5_close_61 rfl 0 rfl ?_
      refine hr_getR hC hiX5_close_X5 rfl kx228 0 (by decide) hmX5_close_12 rfl dX5_close_62 ?_
      refine hr_aload_n hC dX5_close_65 rfl 0 rfl ?_
      refine hr_getR hC hiX5_close_X5 rfl kx228 5 (by decide) hmX5_close_40 rfl dX5_close_66 ?_
      refine hr_getR hC hiX5_close_X0 rfl kx235 3 (by decide) hmX5_close_151 rfl dX5_close_69 ?_
      refine hr_callVi (As := [.ref (ad 239)]) (k := 0) hC rfl (tX2_closeWith (t1 := t1) (t2 := t2) hI n 0 hx_H0 239 (hx_Io kx239) m58) (cwV 1 hC.1.2.2.2.2 gX5_close_X2_closeWith rfl rfl rfl (by decide +kernel) ⟨Nat.le_of_ble_eq_true rfl, Nat.le_of_ble_eq_true rfl⟩) (kxH hx_H0) rfl rfl rfl (Nat.le_of_ble_eq_true rfl) dX5_close_72 (fun r72 m72 => ?_)
      exact hr_ireti hC hr dX5_close_75
    · refine hr_bipush (v := -4) hC dX5_close_25 (by decide) ?_
      exact hr_ireti hC hr dX5_close_27
  · refine hr_bipush (v := -3) hC dX5_close_11 (by decide) ?_
    exact hr_ireti hC hr dX5_close_13
theorem hmX4_chargeAnew_31 : Cond.fieldLink RX4 31 "HeatBills$Year" "bills" "[I" ∈ wsX4_chargeAnew := List.mem_of_getElem? (i := 1) rfl
theorem hmX4_chargeAnew_34 : Cond.fieldLink RX4 34 "HeatBills$Year" "chargedAnew" "[I" ∈ wsX4_chargeAnew := List.mem_of_getElem? (i := 2) rfl
theorem hiX4_chargeAnew_X4 : ∀ w ∈ wsX40, w ∈ wsX4_chargeAnew := fun _ h => List.mem_cons_of_mem _ (List.mem_append_right _ h)
def lX4_chargeAnew_4 (n : Nat) (c0 : Nat) (c1 : Nat) (k : Int32 → Int32 → hb_m → Option (Int32 × hb_m)) : Nat → Int32 → Int32 → hb_m → Option (Int32 × hb_m)
  | 0, _, _, _ => none
  | f + 1, x3, x2, μ => if (16 : Int32) ≤ x3 then
(k x3 x2 μ)
else
(if ib x3 (hx_n c1) then
if ib x3 16 then
if ((rd μ c1 x3.toNatClampNeg) - (rd μ (c0 + 4) x3.toNatClampNeg)) = 0 then
(if ib x3 16 then
if ib x3 16 then
if ib x3 (hx_n c1) then
if ib x3 16 then
lX4_chargeAnew_4 n c0 c1 k f (x3 + (1 : Int32)) x2 (wr (wr μ (c0 + 5) x3.toNatClampNeg ((rd μ (c0 + 5) x3.toNatClampNeg) + ((rd μ c1 x3.toNatClampNeg) - (rd μ (c0 + 4) x3.toNatClampNeg)))) (c0 + 4) x3.toNatClampNeg (rd (wr μ (c0 + 5) x3.toNatClampNeg ((rd μ (c0 + 5) x3.toNatClampNeg) + ((rd μ c1 x3.toNatClampNeg) - (rd μ (c0 + 4) x3.toNatClampNeg)))) c1 x3.toNatClampNeg))
else none
else none
else none
else none)
else
(if ib x3 16 then
if ib x3 16 then
if ib x3 (hx_n c1) then
if ib x3 16 then
lX4_chargeAnew_4 n c0 c1 k f (x3 + (1 : Int32)) (x2 + (1 : Int32)) (wr (wr μ (c0 + 5) x3.toNatClampNeg ((rd μ (c0 + 5) x3.toNatClampNeg) + ((rd μ c1 x3.toNatClampNeg) - (rd μ (c0 + 4) x3.toNatClampNeg)))) (c0 + 4) x3.toNatClampNeg (rd (wr μ (c0 + 5) x3.toNatClampNeg ((rd μ (c0 + 5) x3.toNatClampNeg) + ((rd μ c1 x3.toNatClampNeg) - (rd μ (c0 + 4) x3.toNatClampNeg)))) c1 x3.toNatClampNeg))
else none
else none
else none
else none)
else none
else none)
def fX4_chargeAnew (n : Nat) (c0 : Nat) (c1 : Nat) (μ : hb_m) : Option (Int32 × hb_m) :=
lX4_chargeAnew_4 n c0 c1 (fun x3_4 x2_4 m4 =>
some (x2_4, m4)) n (0 : Int32) (0 : Int32) μ
abbrev rmX4_chargeAnew : Room := { frames := 0, cells := 0, slots := 0, locals := 0 }
set_option maxRecDepth 100000 in
set_option maxHeartbeats 4000000 in
theorem tX4_chargeAnew {l : Launch} {D : va_G} {ad : Nat → Nat} {dA : Nat → ClassId} {t1 t2 : Nat} (hI : hb_I 241 ad) (n : Nat) (c0 : Nat) (h0 : hx_Y c0) (c1 : Nat) (h1 : hx_I c1) (μ : hb_m) : hb_M (hb_Qi vwCl kdX 241 ad D dA) l yX4_chargeAnew wsX4_chargeAnew rmX4_chargeAnew vwCl kdX 241 ad D dA (tbX t1 t2) nwX [.ref (ad c0), .ref (ad c1)] μ (fX4_chargeAnew n c0 c1 μ) := by
  refine hb_start (cc := cX4_chargeAnew) (maxL := 5) (ret := (some .int)) (by decide) rfl hI (Nat.le_of_ble_eq_true rfl) [(0, .ref (ad c0)), (1, .ref (ad c1))] rfl ?_
  intro p e s m args below meth c hC hr
  have L4 : ∀ (k : Int32 → Int32 → hb_m → Option (Int32 × hb_m)) (hk : ∀ (x3 : Int32) (x2 : Int32) (μ : hb_m), hb_V p l e rmX4_chargeAnew s m args below meth c 5 vwCl kdX 241 ad D dA (hb_Qi vwCl kdX 241 ad D dA) μ 56 [(3, .int x3), (2, .int x2), (0, .ref (ad c0)), (1, .ref (ad c1))] [] (k x3 x2 μ)) (f : Nat) (x3 : Int32) (x2 : Int32) (μ : hb_m), hb_V p l e rmX4_chargeAnew s m args below meth c 5 vwCl kdX 241 ad D dA (hb_Qi vwCl kdX 241 ad D dA) μ 4 [(3, .int x3), (2, .int x2), (0, .ref (ad c0)), (1, .ref (ad c1))] [] (lX4_chargeAnew_4 n c0 c1 k f x3 x2 μ) := by
    intro k hk f
    induction f with
    | zero => intro x3 x2 μ; rw [lX4_chargeAnew_4]; exact hr_none
    | succ f ih =>
      intro x3 x2 μ
      rw [lX4_chargeAnew_4]
      refine hr_iload_n hC dX4_chargeAnew_4 rfl 0 rfl ?_
      refine hr_bipush (v := 16) hC dX4_chargeAnew_5 (by decide) ?_
      refine hr_icmp_ge (tgt := 56) hC dX4_chargeAnew_7 (by decide) (fun _ => ?_) (fun _ => ?_)
      · refine hr_sub (lv' := [(3, .int x3), (2, .int x2), (0, .ref (ad c0)), (1, .ref (ad c1))]) [0, 1, 2, 3] rfl ?_
        exact hk _ _ _
      · refine hr_aload_n hC dX4_chargeAnew_10 rfl 3 rfl ?_
        refine hr_iload_n hC dX4_chargeAnew_11 rfl 0 rfl ?_
        refine hr_iald hC h1 dX4_chargeAnew_12 ?_
        refine hr_aload_n hC dX4_chargeAnew_13 rfl 2 rfl ?_
        refine hr_getR hC hiX4_chargeAnew_X4 rfl (kxY h0) 6 (by decide) hmX4_chargeAnew_31 rfl dX4_chargeAnew_14 ?_
        refine hr_iload_n hC dX4_chargeAnew_17 rfl 0 rfl ?_
        refine hr_iald hC (kxY4 h0) dX4_chargeAnew_18 ?_
        refine hr_isub hC dX4_chargeAnew_19 ?_
        refine hr_istore (lv' := [(4, .int ((rd μ c1 x3.toNatClampNeg) - (rd μ (c0 + 4) x3.toNatClampNeg))), (3, .int x3), (2, .int x2), (0, .ref (ad c0)), (1, .ref (ad c1))]) hC dX4_chargeAnew_20 (by decide) rfl ?_
        refine hr_iload hC dX4_chargeAnew_22 0 rfl ?_
        refine hr_if_eq (tgt := 30) hC dX4_chargeAnew_24 (by decide) (fun _ => ?_) (fun _ => ?_)
        · refine hr_aload_n hC dX4_chargeAnew_30 rfl 3 rfl ?_
          refine hr_getR hC hiX4_chargeAnew_X4 rfl (kxY h0) 7 (by decide) hmX4_chargeAnew_34 rfl dX4_chargeAnew_31 ?_
          refine hr_iload_n hC dX4_chargeAnew_34 rfl 1 rfl ?_
          refine hr_dup2 hC dX4_chargeAnew_35 rfl rfl ?_
          refine hr_iald hC (kxY5 h0) dX4_chargeAnew_36 ?_
          refine hr_iload hC dX4_chargeAnew_37 0 rfl ?_
          refine hr_iadd hC dX4_chargeAnew_39 ?_
          refine hr_iast hC (kxY5 h0) dX4_chargeAnew_40 ?_
          refine hr_aload_n hC dX4_chargeAnew_41 rfl 3 rfl ?_
          refine hr_getR hC hiX4_chargeAnew_X4 rfl (kxY h0) 6 (by decide) hmX4_chargeAnew_31 rfl dX4_chargeAnew_42 ?_
          refine hr_iload_n hC dX4_chargeAnew_45 rfl 1 rfl ?_
          refine hr_aload_n hC dX4_chargeAnew_46 rfl 4 rfl ?_
          refine hr_iload_n hC dX4_chargeAnew_47 rfl 1 rfl ?_
          refine hr_iald hC h1 dX4_chargeAnew_48 ?_
          refine hr_iast hC (kxY4 h0) dX4_chargeAnew_49 ?_
          refine hr_iinc (v := (x3 + (1 : Int32))) (lv' := [(3, .int (x3 + (1 : Int32))), (4, .int ((rd μ c1 x3.toNatClampNeg) - (rd μ (c0 + 4) x3.toNatClampNeg))), (2, .int x2), (0, .ref (ad c0)), (1, .ref (ad c1))]) (kx := 1) hC dX4_chargeAnew_50 rfl rfl (by decide) rfl ?_
          refine hr_goto (tgt := 4) hC dX4_chargeAnew_53 (by decide) ?_
          refine hr_sub (lv' := [(3, .int (x3 + (1 : Int32))), (2, .int x2), (0, .ref (ad c0)), (1, .ref (ad c1))]) [0, 2, 3, 4] rfl ?_
          exact ih _ _ _
        · refine hr_iinc (v := (x2 + (1 : Int32))) (lv' := [(2, .int (x2 + (1 : Int32))), (4, .int ((rd μ c1 x3.toNatClampNeg) - (rd μ (c0 + 4) x3.toNatClampNeg))), (3, .int x3), (0, .ref (ad c0)), (1, .ref (ad c1))]) (kx := 2) hC dX4_chargeAnew_27 rfl rfl (by decide) rfl ?_
          refine hr_aload_n hC dX4_chargeAnew_30 rfl 3 rfl ?_
          refine hr_getR hC hiX4_chargeAnew_X4 rfl (kxY h0) 7 (by decide) hmX4_chargeAnew_34 rfl dX4_chargeAnew_31 ?_
          refine hr_iload_n hC dX4_chargeAnew_34 rfl 2 rfl ?_
          refine hr_dup2 hC dX4_chargeAnew_35 rfl rfl ?_
          refine hr_iald hC (kxY5 h0) dX4_chargeAnew_36 ?_
          refine hr_iload hC dX4_chargeAnew_37 1 rfl ?_
          refine hr_iadd hC dX4_chargeAnew_39 ?_
          refine hr_iast hC (kxY5 h0) dX4_chargeAnew_40 ?_
          refine hr_aload_n hC dX4_chargeAnew_41 rfl 3 rfl ?_
          refine hr_getR hC hiX4_chargeAnew_X4 rfl (kxY h0) 6 (by decide) hmX4_chargeAnew_31 rfl dX4_chargeAnew_42 ?_
          refine hr_iload_n hC dX4_chargeAnew_45 rfl 2 rfl ?_
          refine hr_aload_n hC dX4_chargeAnew_46 rfl 4 rfl ?_
          refine hr_iload_n hC dX4_chargeAnew_47 rfl 2 rfl ?_
          refine hr_iald hC h1 dX4_chargeAnew_48 ?_
          refine hr_iast hC (kxY4 h0) dX4_chargeAnew_49 ?_
          refine hr_iinc (v := (x3 + (1 : Int32))) (lv' := [(3, .int (x3 + (1 : Int32))), (2, .int (x2 + (1 : Int32))), (4, .int ((rd μ c1 x3.toNatClampNeg) - (rd μ (c0 + 4) x3.toNatClampNeg))), (0, .ref (ad c0)), (1, .ref (ad c1))]) (kx := 2) hC dX4_chargeAnew_50 rfl rfl (by decide) rfl ?_
          refine hr_goto (tgt := 4) hC dX4_chargeAnew_53 (by decide) ?_
          refine hr_sub (lv' := [(3, .int (x3 + (1 : Int32))), (2, .int (x2 + (1 : Int32))), (0, .ref (ad c0)), (1, .ref (ad c1))]) [0, 1, 3, 4] rfl ?_
          exact ih _ _ _
  rw [fX4_chargeAnew]
  refine hr_iconst (v := 0) hC dX4_chargeAnew_0 (by decide) ?_
  refine hr_istore_n (lv' := [(2, .int (0 : Int32)), (0, .ref (ad c0)), (1, .ref (ad c1))]) hC dX4_chargeAnew_1 rfl (by decide) rfl ?_
  refine hr_iconst (v := 0) hC dX4_chargeAnew_2 (by decide) ?_
  refine hr_istore_n (lv' := [(3, .int (0 : Int32)), (2, .int (0 : Int32)), (0, .ref (ad c0)), (1, .ref (ad c1))]) hC dX4_chargeAnew_3 rfl (by decide) rfl ?_
  refine hr_sub (lv' := [(3, .int (0 : Int32)), (2, .int (0 : Int32)), (0, .ref (ad c0)), (1, .ref (ad c1))]) [0, 1, 2, 3] rfl ?_
  refine L4 _ (fun x3_4 x2_4 m4 => ?_) _ _ _ _
  refine hr_iload_n hC dX4_chargeAnew_56 rfl 1 rfl ?_
  exact hr_ireti hC hr dX4_chargeAnew_57
theorem hmX5_correct_12 : Cond.fieldLink RX5 12 "HeatBills" "now" "LHeatBills$House;" ∈ wsX5_correct := List.mem_of_getElem? (i := 1) rfl
theorem hmX5_correct_162 : Cond.constant RX5 162 (199980) ∈ wsX5_correct := List.mem_of_getElem? (i := 2) rfl
theorem hmX5_correct_101 : Cond.fieldLink RX5 101 "HeatBills$Year" "deviceUnits" "[I" ∈ wsX5_correct := List.mem_of_getElem? (i := 3) rfl
theorem hmX5_correct_26 : Cond.fieldLink RX5 26 "HeatBills" "history" "LHeatBills$History;" ∈ wsX5_correct := List.mem_of_getElem? (i := 4) rfl
theorem hmX5_correct_163 : Cond.fieldLink RX5 163 "HeatBills$House" "corrections" "I" ∈ wsX5_correct := List.mem_of_getElem? (i := 5) rfl
theorem hmX5_correct_40 : Cond.fieldLink RX5 40 "HeatBills" "accounts" "LHeatBills$Accounts;" ∈ wsX5_correct := List.mem_of_getElem? (i := 6) rfl
theorem hmX5_correct_151 : Cond.fieldLink RX5 151 "HeatBills$Accounts" "bills" "[I" ∈ wsX5_correct := List.mem_of_getElem? (i := 7) rfl
theorem hiX5_correct_X5 : ∀ w ∈ wsX50, w ∈ wsX5_correct := fun _ h => List.mem_cons_of_mem _ (List.mem_append_left _ (List.mem_append_left _ (List.mem_append_left _ (List.mem_append_left _ (List.mem_append_right _ h)))))
theorem hiX5_correct_X4 : ∀ w ∈ wsX40, w ∈ wsX5_correct := fun _ h => List.mem_cons_of_mem _ (List.mem_append_left _ (List.mem_append_left _ (List.mem_append_left _ (List.mem_append_right _ h))))
theorem hiX5_correct_X2 : ∀ w ∈ wsX20, w ∈ wsX5_correct := fun _ h => List.mem_cons_of_mem _ (List.mem_append_left _ (List.mem_append_left _ (List.mem_append_right _ h)))
theorem hiX5_correct_X0 : ∀ w ∈ wsX00, w ∈ wsX5_correct := fun _ h => List.mem_cons_of_mem _ (List.mem_append_left _ (List.mem_append_right _ h))
def fX5_correct (n : Nat) (p1 : Int32) (p2 : Int32) (p3 : Int32) (μ : hb_m) : Option (Int32 × hb_m) :=
br (fX2_closedYear n 0 p1 μ) (fun m5 =>
some ((-1 : Int32), m5)) (fun r5 m5 =>
bi (fX4_hasDevice n r5 p2 m5) (fun r18 m18 =>
if r18 = 0 then
(some ((-1 : Int32), m18))
else
(if p3 < 0 then
(some ((-2 : Int32), m18))
else
(if p3 ≤ (199980 : Int32) then
(if ib p2 20 then
if (rd m18 (r5 + 3) p2.toNatClampNeg) = p3 then
(some ((-5 : Int32), m18))
else
(bv (fX1_remember n 0 m18) (fun m61 =>
if ib p2 20 then
bv (fX0_drawUp n 0 r5 (wr (wr m61 0 8 ((rd m61 0 8) + (1 : Int32))) (r5 + 3) p2.toNatClampNeg p3)) (fun m95 =>
bv (fX0_splitByTenants n 0 r5 m95) (fun m108 =>
bi (fX4_chargeAnew n r5 239 m108) (fun r120 m120 =>
some (r120, m120))))
else none))
else none)
else
(some ((-2 : Int32), m18))))))
abbrev rmX5_correct : Room := { frames := 4, cells := 0, slots := 0, locals := 101 }
set_option maxRecDepth 100000 in
set_option maxHeartbeats 4000000 in
theorem tX5_correct {l : Launch} {D : va_G} {ad : Nat → Nat} {dA : Nat → ClassId} {t1 t2 : Nat} (hI : hb_I 241 ad) (n : Nat) (p1 : Int32) (p2 : Int32) (p3 : Int32) (μ : hb_m) : hb_M (hb_Qi vwCl kdX 241 ad D dA) l yX5_correct wsX5_correct rmX5_correct vwCl kdX 241 ad D dA (tbX t1 t2) nwX [.ref (ad 228), .int p1, .int p2, .int p3] μ (fX5_correct n p1 p2 p3 μ) := by
  refine hb_start (cc := cX5_correct) (maxL := 5) (ret := (some .int)) (by decide) rfl hI (Nat.le_of_ble_eq_true rfl) [(0, .ref (ad 228)), (1, .int p1), (2, .int p2), (3, .int p3)] rfl ?_
  intro p e s m args below meth c hC hr
  rw [fX5_correct]
  refine hr_aload_n hC dX5_correct_0 rfl 0 rfl ?_
  refine hr_getR hC hiX5_correct_X5 rfl kx228 0 (by decide) hmX5_correct_12 rfl dX5_correct_1 ?_
  refine hr_iload_n hC dX5_correct_4 rfl 1 rfl ?_
  refine hr_callVr (As := [.int p1]) (k := 0) hC rfl (tX2_closedYear (t1 := t1) (t2 := t2) hI n 0 hx_H0 p1 μ) (cwV 1 hC.1.2.2.2.2 gX5_correct_X2_closedYear rfl rfl rfl (by decide +kernel) ⟨Nat.le_of_ble_eq_true rfl, Nat.le_of_ble_eq_true rfl⟩) (kxH hx_H0) rfl rfl rfl (Nat.le_of_ble_eq_true rfl) dX5_correct_5 (fun m5 => ?_) (fun r5 m5 e5 => ?_)
  · refine hr_astoreN (lv' := [(4, .null), (0, .ref (ad 228)), (1, .int p1), (2, .int p2), (3, .int p3)]) hC dX5_correct_8 (by decide) rfl ?_
    refine hr_aloadN hC dX5_correct_10 0 rfl ?_
    refine hr_ifnullN (tgt := 24) hC dX5_correct_12 (by decide) ?_
    refine hr_iconst (v := -1) hC dX5_correct_24 (by decide) ?_
    exact hr_ireti hC hr dX5_correct_25
  · refine hr_astore (lv' := [(4, .ref (ad r5)), (0, .ref (ad 228)), (1, .int p1), (2, .int p2), (3, .int p3)]) hC dX5_correct_8 (by decide) rfl ?_
    refine hr_aload hC dX5_correct_10 0 rfl ?_
    refine hr_ifnull hC dX5_correct_12 ?_
    refine hr_aload hC dX5_correct_15 0 rfl ?_
    refine hr_iload_n hC dX5_correct_17 rfl 3 rfl ?_
    refine hr_callVi (As := [.int p2]) (k := r5) hC rfl (tX4_hasDevice (t1 := t1) (t2 := t2) hI n r5 (vX2_closedYear hx_H0 e5) p2 m5) (cwV 1 hC.1.2.2.2.2 gX5_correct_X4_hasDevice rfl rfl rfl (by decide +kernel) ⟨Nat.le_of_ble_eq_true rfl, Nat.le_of_ble_eq_true rfl⟩) (kxY (vX2_closedYear hx_H0 e5)) rfl rfl rfl (Nat.le_of_ble_eq_true rfl) dX5_correct_18 (fun r18 m18 => ?_)
    refine hr_if_ne (tgt := 26) hC dX5_correct_21 (by decide) (fun _ => ?_) (fun _ => ?_)
    · refine hr_iconst (v := -1) hC dX5_correct_24 (by decide) ?_
      exact hr_ireti hC hr dX5_correct_25
    · refine hr_iload_n hC dX5_correct_26 rfl 4 rfl ?_
      refine hr_if_lt (tgt := 36) hC dX5_correct_27 (by decide) (fun _ => ?_) (fun _ => ?_)
      · refine hr_bipush (v := -2) hC dX5_correct_36 (by decide) ?_
        exact hr_ireti hC hr dX5_correct_38
      · refine hr_iload_n hC dX5_correct_30 rfl 4 rfl ?_
        refine hr_ldc (v := 199980) hC dX5_correct_31 hmX5_correct_162 ?_
        refine hr_icmp_le (tgt := 39) hC dX5_correct_33 (by decide) (fun _ => ?_) (fun _ => ?_)
        · refine hr_aload hC dX5_correct_39 0 rfl ?_
          refine hr_getR hC hiX5_correct_X4 rfl (kxY (vX2_closedYear hx_H0 e5)) 5 (by decide) hmX5_correct_101 rfl dX5_correct_41 ?_
          refine hr_iload_n hC dX5_correct_44 rfl 3 rfl ?_
          refine hr_iald hC (kxY3 (vX2_closedYear hx_H0 e5)) dX5_correct_45 ?_
          refine hr_iload_n hC dX5_correct_46 rfl 4 rfl ?_
          refine hr_icmp_ne (tgt := 53) hC dX5_correct_47 (by decide) (fun _ => ?_) (fun _ => ?_)
          · refine hr_bipush (v := -5) hC dX5_correct_50 (by decide) ?_
            exact hr_ireti hC hr dX5_correct_52
          · refine hr_aload_n hC dX5_correct_53 rfl 1 rfl ?_
            refine hr_getR hC hiX5_correct_X5 rfl kx228 3 (by decide) hmX5_correct_26 rfl dX5_correct_54 ?_
            refine hr_aload_n hC dX5_correct_57 rfl 1 rfl ?_
            refine hr_getR hC hiX5_correct_X5 rfl kx228 0 (by decide) hmX5_correct_12 rfl dX5_correct_58 ?_
            refine hr_callVv (As := [.ref (ad 0)]) (k := 229) hC rfl (tX1_remember (t1 := t1) (t2 := t2) hI n 0 hx_H0 m18) (cwV 1 hC.1.2.2.2.2 gX5_correct_X1_remember rfl rfl rfl (by decide +kernel) ⟨Nat.le_of_ble_eq_true rfl, Nat.le_of_ble_eq_true rfl⟩) kx229 rfl rfl rfl (Nat.le_of_ble_eq_true rfl) dX5_correct_61 (fun m61 => ?_)
            refine hr_aload_n hC dX5_correct_64 rfl 1 rfl ?_
            refine hr_getR hC hiX5_correct_X5 rfl kx228 0 (by decide) hmX5_correct_12 rfl dX5_correct_65 ?_
            refine hr_dup hC dX5_correct_68 rfl ?_
            refine hr_getI hC hiX5_correct_X2 rfl (kxH hx_H0) 8 (by decide) hmX5_correct_163 rfl dX5_correct_69 ?_
            refine hr_iconst (v := 1) hC dX5_correct_72 (by decide) ?_
            refine hr_iadd hC dX5_correct_73 ?_
            refine hr_putI hC hiX5_correct_X2 rfl (kxH hx_H0) 8 (by decide) hmX5_correct_163 tyX2_ok nmX2 rfl rfl rfl rfl dX5_correct_74 ?_
            refine hr_aload hC dX5_correct_77 0 rfl ?_
            refine hr_getR hC hiX5_correct_X4 rfl (kxY (vX2_closedYear hx_H0 e5)) 5 (by decide) hmX5_correct_101 rfl dX5_correct_79 ?_
            refine hr_iload_n hC dX5_correct_82 rfl 3 rfl ?_
            refine hr_iload_n hC dX5_correct_83 rfl 4 rfl ?_
            refine hr_iast hC (kxY3 (vX2_closedYear hx_H0 e5)) dX5_correct_84 ?_
            refine hr_aload_n hC dX5_correct_85 rfl 1 rfl ?_
            refine hr_getR hC hiX5_correct_X5 rfl kx228 5 (by decide) hmX5_correct_40 rfl dX5_correct_86 ?_
            refine hr_aload_n hC dX5_correct_89 rfl 1 rfl ?_
            refine hr_getR hC hiX5_correct_X5 rfl kx228 0 (by decide) hmX5_correct_12 rfl dX5_correct_90 ?_
            refine hr_aload hC dX5_correct_93 0 rfl ?_
            refine hr_callVv (As := [.ref (ad 0), .ref (ad r5)]) (k := 235) hC rfl (tX0_drawUp (t1 := t1) (t2 := t2) hI n 0 hx_H0 r5 (vX2_closedYear hx_H0 e5) (wr (wr m61 0 8 ((rd m61 0 8) + (1 : Int32))) (r5 + 3) p2.toNatClampNeg p3)) (cwV 2 hC.1.2.2.2.2 gX5_correct_X0_drawUp rfl rfl rfl (by decide +kernel) ⟨Nat.le_of_ble_eq_true rfl, Nat.le_of_ble_eq_true rfl⟩) kx235 rfl rfl rfl (Nat.le_of_ble_eq_true rfl) dX5_correct_95 (fun m95 => ?_)
            refine hr_aload_n hC dX5_correct_98 rfl 1 rfl ?_
            refine hr_getR hC hiX5_correct_X5 rfl kx228 5 (by decide) hmX5_correct_40 rfl dX5_correct_99 ?_
            refine hr_aload_n hC dX5_correct_102 rfl 1 rfl ?_
            refine hr_getR hC hiX5_correct_X5 rfl kx228 0 (by decide) hmX5_correct_12 rfl dX5_correct_103 ?_
            refine hr_aload hC dX5_correct_106 0 rfl ?_
            refine hr_callVv (As := [.ref (ad 0), .ref (ad r5)]) (k := 235) hC rfl (tX0_splitByTenants (t1 := t1) (t2 := t2) hI n 0 hx_H0 r5 (vX2_closedYear hx_H0 e5) m95) (cwV 2 hC.1.2.2.2.2 gX5_correct_X0_splitByTenants rfl rfl rfl (by decide +kernel) ⟨Nat.le_of_ble_eq_true rfl, Nat.le_of_ble_eq_true rfl⟩) kx235 rfl rfl rfl (Nat.le_of_ble_eq_true rfl) dX5_correct_108 (fun m108 => ?_)
            refine hr_aload hC dX5_correct_111 0 rfl ?_
            refine hr_aload_n hC dX5_correct_113 rfl 1 rfl ?_
            refine hr_getR hC hiX5_correct_X5 rfl kx228 5 (by decide) hmX5_correct_40 rfl dX5_correct_114 ?_
            refine hr_getR hC hiX5_correct_X0 rfl kx235 3 (by decide) hmX5_correct_151 rfl dX5_correct_117 ?_
            refine hr_callVi (As := [.ref (ad 239)]) (k := r5) hC rfl (tX4_chargeAnew (t1 := t1) (t2 := t2) hI n r5 (vX2_closedYear hx_H0 e5) 239 (hx_Io kx239) m108) (cwV 1 hC.1.2.2.2.2 gX5_correct_X4_chargeAnew rfl rfl rfl (by decide +kernel) ⟨Nat.le_of_ble_eq_true rfl, Nat.le_of_ble_eq_true rfl⟩) (kxY (vX2_closedYear hx_H0 e5)) rfl rfl rfl (Nat.le_of_ble_eq_true rfl) dX5_correct_120 (fun r120 m120 => ?_)
            exact hr_ireti hC hr dX5_correct_123
        · refine hr_bipush (v := -2) hC dX5_correct_36 (by decide) ?_
          exact hr_ireti hC hr dX5_correct_38
theorem hmX3_append_15 : Cond.fieldLink RX3 15 "HeatBills$ReadingsText" "length" "I" ∈ wsX3_append := List.mem_of_getElem? (i := 1) rfl
theorem hmX3_append_9 : Cond.fieldLink RX3 9 "HeatBills$ReadingsText" "characters" "[C" ∈ wsX3_append := List.mem_of_getElem? (i := 2) rfl
theorem hiX3_append_X3 : ∀ w ∈ wsX30, w ∈ wsX3_append := fun _ h => List.mem_cons_of_mem _ (List.mem_append_right _ h)
def fX3_append (n : Nat) (p1 : Int32) (μ : hb_m) : Option (Int32 × hb_m) :=
if (rd μ 231 1) < (60 : Int32) then
(if ib (rd μ 231 1) 60 then
some ((1 : Int32), (wr (wr μ 232 (rd μ 231 1).toNatClampNeg (vp_nar .char p1)) 231 1 ((rd (wr μ 232 (rd μ 231 1).toNatClampNeg (vp_nar .char p1)) 231 1) + (1 : Int32))))
else none)
else
(some ((0 : Int32), μ))
abbrev rmX3_append : Room := { frames := 0, cells := 0, slots := 0, locals := 0 }
set_option maxRecDepth 100000 in
set_option maxHeartbeats 4000000 in
theorem tX3_append {l : Launch} {D : va_G} {ad : Nat → Nat} {dA : Nat → ClassId} {t1 t2 : Nat} (hI : hb_I 241 ad) (n : Nat) (p1 : Int32) (μ : hb_m) : hb_M (hb_Qi vwCl kdX 241 ad D dA) l yX3_append wsX3_append rmX3_append vwCl kdX 241 ad D dA (tbX t1 t2) nwX [.ref (ad 231), .int p1] μ (fX3_append n p1 μ) := by
  refine hb_start (cc := cX3_append) (maxL := 2) (ret := (some .boolean)) (by decide) rfl hI (Nat.le_of_ble_eq_true rfl) [(0, .ref (ad 231)), (1, .int p1)] rfl ?_
  intro p e s m args below meth c hC hr
  rw [fX3_append]
  refine hr_aload_n hC dX3_append_0 rfl 0 rfl ?_
  refine hr_getI hC hiX3_append_X3 rfl kx231 1 (by decide) hmX3_append_15 rfl dX3_append_1 ?_
  refine hr_bipush (v := 60) hC dX3_append_4 (by decide) ?_
  refine hr_icmp_lt (tgt := 11) hC dX3_append_6 (by decide) (fun _ => ?_) (fun _ => ?_)
  · refine hr_aload_n hC dX3_append_11 rfl 0 rfl ?_
    refine hr_getR hC hiX3_append_X3 rfl kx231 0 (by decide) hmX3_append_9 rfl dX3_append_12 ?_
    refine hr_aload_n hC dX3_append_15 rfl 0 rfl ?_
    refine hr_getI hC hiX3_append_X3 rfl kx231 1 (by decide) hmX3_append_15 rfl dX3_append_16 ?_
    refine hr_iload_n hC dX3_append_19 rfl 1 rfl ?_
    refine hr_cast hC kx232 dX3_append_20 ?_
    refine hr_aload_n hC dX3_append_21 rfl 0 rfl ?_
    refine hr_dup hC dX3_append_22 rfl ?_
    refine hr_getI hC hiX3_append_X3 rfl kx231 1 (by decide) hmX3_append_15 rfl dX3_append_23 ?_
    refine hr_iconst (v := 1) hC dX3_append_26 (by decide) ?_
    refine hr_iadd hC dX3_append_27 ?_
    refine hr_putI hC hiX3_append_X3 rfl kx231 1 (by decide) hmX3_append_15 tyX3_ok nmX3 rfl rfl rfl rfl dX3_append_28 ?_
    refine hr_iconst (v := 1) hC dX3_append_31 (by decide) ?_
    exact hr_iretz hC hr dX3_append_32 rfl
  · refine hr_iconst (v := 0) hC dX3_append_9 (by decide) ?_
    exact hr_iretz hC hr dX3_append_10 rfl
theorem hmX5_type_33 : Cond.fieldLink RX5 33 "HeatBills" "text" "LHeatBills$ReadingsText;" ∈ wsX5_type := List.mem_of_getElem? (i := 1) rfl
theorem hmX5_type_176 : Cond.fieldLink RX5 176 "HeatBills$ReadingsText" "length" "I" ∈ wsX5_type := List.mem_of_getElem? (i := 2) rfl
theorem hiX5_type_X5 : ∀ w ∈ wsX50, w ∈ wsX5_type := fun _ h => List.mem_cons_of_mem _ (List.mem_append_left _ (List.mem_append_right _ h))
theorem hiX5_type_X3 : ∀ w ∈ wsX30, w ∈ wsX5_type := fun _ h => List.mem_cons_of_mem _ (List.mem_append_right _ h)
def fX5_type (n : Nat) (p1 : Int32) (μ : hb_m) : Option (Int32 × hb_m) :=
bi (fX3_append n p1 μ) (fun r5 m5 =>
if r5 = 0 then
(some ((-3 : Int32), m5))
else
(some ((rd m5 231 1), m5)))
abbrev rmX5_type : Room := { frames := 1, cells := 0, slots := 0, locals := 21 }
set_option maxRecDepth 100000 in
set_option maxHeartbeats 4000000 in
theorem tX5_type {l : Launch} {D : va_G} {ad : Nat → Nat} {dA : Nat → ClassId} {t1 t2 : Nat} (hI : hb_I 241 ad) (n : Nat) (p1 : Int32) (μ : hb_m) : hb_M (hb_Qi vwCl kdX 241 ad D dA) l yX5_type wsX5_type rmX5_type vwCl kdX 241 ad D dA (tbX t1 t2) nwX [.ref (ad 228), .int p1] μ (fX5_type n p1 μ) := by
  refine hb_start (cc := cX5_type) (maxL := 2) (ret := (some .int)) (by decide) rfl hI (Nat.le_of_ble_eq_true rfl) [(0, .ref (ad 228)), (1, .int p1)] rfl ?_
  intro p e s m args below meth c hC hr
  rw [fX5_type]
  refine hr_aload_n hC dX5_type_0 rfl 0 rfl ?_
  refine hr_getR hC hiX5_type_X5 rfl kx228 4 (by decide) hmX5_type_33 rfl dX5_type_1 ?_
  refine hr_iload_n hC dX5_type_4 rfl 1 rfl ?_
  refine hr_callVi (As := [.int p1]) (k := 231) hC rfl (tX3_append (t1 := t1) (t2 := t2) hI n p1 μ) (cwV 1 hC.1.2.2.2.2 gX5_type_X3_append rfl rfl rfl (by decide +kernel) ⟨Nat.le_of_ble_eq_true rfl, Nat.le_of_ble_eq_true rfl⟩) kx231 rfl rfl rfl (Nat.le_of_ble_eq_true rfl) dX5_type_5 (fun r5 m5 => ?_)
  refine hr_if_eq (tgt := 21) hC dX5_type_8 (by decide) (fun _ => ?_) (fun _ => ?_)
  · refine hr_bipush (v := -3) hC dX5_type_21 (by decide) ?_
    exact hr_ireti hC hr dX5_type_23
  · refine hr_aload_n hC dX5_type_11 rfl 0 rfl ?_
    refine hr_getR hC hiX5_type_X5 rfl kx228 4 (by decide) hmX5_type_33 rfl dX5_type_12 ?_
    refine hr_getI hC hiX5_type_X3 rfl kx231 1 (by decide) hmX5_type_176 rfl dX5_type_15 ?_
    refine hr_goto (tgt := 23) hC dX5_type_18 (by decide) ?_
    exact hr_ireti hC hr dX5_type_23
theorem hmX5_clearText_33 : Cond.fieldLink RX5 33 "HeatBills" "text" "LHeatBills$ReadingsText;" ∈ wsX5_clearText := List.mem_of_getElem? (i := 1) rfl
theorem hmX5_clearText_176 : Cond.fieldLink RX5 176 "HeatBills$ReadingsText" "length" "I" ∈ wsX5_clearText := List.mem_of_getElem? (i := 2) rfl
theorem hiX5_clearText_X5 : ∀ w ∈ wsX50, w ∈ wsX5_clearText := fun _ h => List.mem_cons_of_mem _ (List.mem_append_left _ (List.mem_append_right _ h))
theorem hiX5_clearText_X3 : ∀ w ∈ wsX30, w ∈ wsX5_clearText := fun _ h => List.mem_cons_of_mem _ (List.mem_append_right _ h)
def fX5_clearText (n : Nat) (μ : hb_m) : Option (Int32 × hb_m) :=
some ((rd μ 231 1), (wr μ 231 1 (0 : Int32)))
abbrev rmX5_clearText : Room := { frames := 0, cells := 0, slots := 0, locals := 0 }
set_option maxRecDepth 100000 in
set_option maxHeartbeats 4000000 in
theorem tX5_clearText {l : Launch} {D : va_G} {ad : Nat → Nat} {dA : Nat → ClassId} {t1 t2 : Nat} (hI : hb_I 241 ad) (n : Nat) (μ : hb_m) : hb_M (hb_Qi vwCl kdX 241 ad D dA) l yX5_clearText wsX5_clearText rmX5_clearText vwCl kdX 241 ad D dA (tbX t1 t2) nwX [.ref (ad 228)] μ (fX5_clearText n μ) := by
  refine hb_start (cc := cX5_clearText) (maxL := 2) (ret := (some .int)) (by decide) rfl hI (Nat.le_of_ble_eq_true rfl) [(0, .ref (ad 228))] rfl ?_
  intro p e s m args below meth c hC hr
  rw [fX5_clearText]
  refine hr_aload_n hC dX5_clearText_0 rfl 0 rfl ?_
  refine hr_getR hC hiX5_clearText_X5 rfl kx228 4 (by decide) hmX5_clearText_33 rfl dX5_clearText_1 ?_
  refine hr_getI hC hiX5_clearText_X3 rfl kx231 1 (by decide) hmX5_clearText_176 rfl dX5_clearText_4 ?_
  refine hr_istore_n (lv' := [(1, .int (rd μ 231 1)), (0, .ref (ad 228))]) hC dX5_clearText_7 rfl (by decide) rfl ?_
  refine hr_aload_n hC dX5_clearText_8 rfl 1 rfl ?_
  refine hr_getR hC hiX5_clearText_X5 rfl kx228 4 (by decide) hmX5_clearText_33 rfl dX5_clearText_9 ?_
  refine hr_iconst (v := 0) hC dX5_clearText_12 (by decide) ?_
  refine hr_putI hC hiX5_clearText_X3 rfl kx231 1 (by decide) hmX5_clearText_176 tyX3_ok nmX3 rfl rfl rfl rfl dX5_clearText_13 ?_
  refine hr_iload_n hC dX5_clearText_16 rfl 0 rfl ?_
  exact hr_ireti hC hr dX5_clearText_17
theorem hmX1_removeLatest_22 : Cond.fieldLink RX1 22 "HeatBills$History" "size" "I" ∈ wsX1_removeLatest := List.mem_of_getElem? (i := 1) rfl
theorem hmX1_removeLatest_11 : Cond.fieldLink RX1 11 "HeatBills$History" "states" "[LHeatBills$House;" ∈ wsX1_removeLatest := List.mem_of_getElem? (i := 2) rfl
theorem hmX1_removeLatest_18 : Cond.fieldLink RX1 18 "HeatBills$History" "oldest" "I" ∈ wsX1_removeLatest := List.mem_of_getElem? (i := 3) rfl
theorem hiX1_removeLatest_X1 : ∀ w ∈ wsX10, w ∈ wsX1_removeLatest := fun _ h => List.mem_cons_of_mem _ (List.mem_append_right _ h)
def fX1_removeLatest (n : Nat) (μ : hb_m) : Option (Option Nat × hb_m) :=
if (1 : Int32) ≤ (rd μ 229 2) then
(if ib (((rd (wr μ 229 2 ((rd μ 229 2) - (1 : Int32))) 229 1) + (rd (wr μ 229 2 ((rd μ 229 2) - (1 : Int32))) 229 2)) - ((rd (wr μ 229 2 ((rd μ 229 2) - (1 : Int32))) 229 1) + (rd (wr μ 229 2 ((rd μ 229 2) - (1 : Int32))) 229 2)) / (4 : Int32) * (4 : Int32)) 4 then
some (some (76 + 38 * (((rd (wr μ 229 2 ((rd μ 229 2) - (1 : Int32))) 229 1) + (rd (wr μ 229 2 ((rd μ 229 2) - (1 : Int32))) 229 2)) - ((rd (wr μ 229 2 ((rd μ 229 2) - (1 : Int32))) 229 1) + (rd (wr μ 229 2 ((rd μ 229 2) - (1 : Int32))) 229 2)) / (4 : Int32) * (4 : Int32)).toNatClampNeg), (wr μ 229 2 ((rd μ 229 2) - (1 : Int32))))
else none)
else
(some (none, μ))
abbrev rmX1_removeLatest : Room := { frames := 0, cells := 0, slots := 0, locals := 0 }
set_option maxRecDepth 100000 in
set_option maxHeartbeats 4000000 in
theorem tX1_removeLatest {l : Launch} {D : va_G} {ad : Nat → Nat} {dA : Nat → ClassId} {t1 t2 : Nat} (hI : hb_I 241 ad) (n : Nat) (μ : hb_m) : hb_M (hb_Qr vwCl kdX 241 ad D dA) l yX1_removeLatest wsX1_removeLatest rmX1_removeLatest vwCl kdX 241 ad D dA (tbX t1 t2) nwX [.ref (ad 229)] μ (fX1_removeLatest n μ) := by
  refine hb_start (cc := cX1_removeLatest) (maxL := 1) (ret := (some (.object "HeatBills$House"))) (by decide) rfl hI (Nat.le_of_ble_eq_true rfl) [(0, .ref (ad 229))] rfl ?_
  intro p e s m args below meth c hC hr
  rw [fX1_removeLatest]
  refine hr_aload_n hC dX1_removeLatest_0 rfl 0 rfl ?_
  refine hr_getI hC hiX1_removeLatest_X1 rfl kx229 2 (by decide) hmX1_removeLatest_22 rfl dX1_removeLatest_1 ?_
  refine hr_iconst (v := 1) hC dX1_removeLatest_4 (by decide) ?_
  refine hr_icmp_ge (tgt := 10) hC dX1_removeLatest_5 (by decide) (fun _ => ?_) (fun _ => ?_)
  · refine hr_aload_n hC dX1_removeLatest_10 rfl 0 rfl ?_
    refine hr_dup hC dX1_removeLatest_11 rfl ?_
    refine hr_getI hC hiX1_removeLatest_X1 rfl kx229 2 (by decide) hmX1_removeLatest_22 rfl dX1_removeLatest_12 ?_
    refine hr_iconst (v := 1) hC dX1_removeLatest_15 (by decide) ?_
    refine hr_isub hC dX1_removeLatest_16 ?_
    refine hr_putI hC hiX1_removeLatest_X1 rfl kx229 2 (by decide) hmX1_removeLatest_22 tyX1_ok nmX1 rfl rfl rfl rfl dX1_removeLatest_17 ?_
    refine hr_aload_n hC dX1_removeLatest_20 rfl 0 rfl ?_
    refine hr_getR hC hiX1_removeLatest_X1 rfl kx229 0 (by decide) hmX1_removeLatest_11 rfl dX1_removeLatest_21 ?_
    refine hr_aload_n hC dX1_removeLatest_24 rfl 0 rfl ?_
    refine hr_getI hC hiX1_removeLatest_X1 rfl kx229 1 (by decide) hmX1_removeLatest_18 rfl dX1_removeLatest_25 ?_
    refine hr_aload_n hC dX1_removeLatest_28 rfl 0 rfl ?_
    refine hr_getI hC hiX1_removeLatest_X1 rfl kx229 2 (by decide) hmX1_removeLatest_22 rfl dX1_removeLatest_29 ?_
    refine hr_iadd hC dX1_removeLatest_32 ?_
    refine hr_iconst (v := 4) hC dX1_removeLatest_33 (by decide) ?_
    refine hr_irem hC dX1_removeLatest_34 (by decide) ?_
    refine hr_aald hC (fun j => 76 + 38 * j) 4 kx230 rfl kx230c dX1_removeLatest_35 (fun hlt35 => ?_)
    exact hr_aret hC hr dX1_removeLatest_36
  · refine hr_null hC dX1_removeLatest_8 ?_
    exact hr_aretN hC hr dX1_removeLatest_9
theorem vX1_removeLatest {n : Nat} {μ μ1 : hb_m} {r : Nat} (e : fX1_removeLatest n μ = some (some r, μ1)) : hx_H r := by
  have key : ∀ i : Int32, ib i 4 = true → hx_H (76 + 38 * i.toNatClampNeg) := by
    intro i hi
    refine hx_Hs ?_
    simp only [ib, Bool.and_eq_true, decide_eq_true_eq] at hi
    exact hi.2
  unfold fX1_removeLatest at e
  repeat' split at e
  all_goals first
    | (cases e; exact key _ (by assumption))
    | (cases e)
theorem hmX5_undo_26 : Cond.fieldLink RX5 26 "HeatBills" "history" "LHeatBills$History;" ∈ wsX5_undo := List.mem_of_getElem? (i := 1) rfl
theorem hmX5_undo_12 : Cond.fieldLink RX5 12 "HeatBills" "now" "LHeatBills$House;" ∈ wsX5_undo := List.mem_of_getElem? (i := 2) rfl
theorem hmX5_undo_186 : Cond.fieldLink RX5 186 "HeatBills$History" "size" "I" ∈ wsX5_undo := List.mem_of_getElem? (i := 3) rfl
theorem hiX5_undo_X5 : ∀ w ∈ wsX50, w ∈ wsX5_undo := fun _ h => List.mem_cons_of_mem _ (List.mem_append_left _ (List.mem_append_left _ (List.mem_append_left _ (List.mem_append_right _ h))))
theorem hiX5_undo_X1 : ∀ w ∈ wsX10, w ∈ wsX5_undo := fun _ h => List.mem_cons_of_mem _ (List.mem_append_left _ (List.mem_append_left _ (List.mem_append_right _ h)))
def fX5_undo (n : Nat) (μ : hb_m) : Option (Int32 × hb_m) :=
br (fX1_removeLatest n μ) (fun m4 =>
some ((-5 : Int32), m4)) (fun r4 m4 =>
bv (fX2_copyFrom n 0 r4 m4) (fun m20 =>
some ((rd m20 229 2), m20)))
abbrev rmX5_undo : Room := { frames := 3, cells := 0, slots := 0, locals := 73 }
set_option maxRecDepth 100000 in
set_option maxHeartbeats 4000000 in
theorem tX5_undo {l : Launch} {D : va_G} {ad : Nat → Nat} {dA : Nat → ClassId} {t1 t2 : Nat} (hI : hb_I 241 ad) (n : Nat) (μ : hb_m) : hb_M (hb_Qi vwCl kdX 241 ad D dA) l yX5_undo wsX5_undo rmX5_undo vwCl kdX 241 ad D dA (tbX t1 t2) nwX [.ref (ad 228)] μ (fX5_undo n μ) := by
  refine hb_start (cc := cX5_undo) (maxL := 2) (ret := (some .int)) (by decide) rfl hI (Nat.le_of_ble_eq_true rfl) [(0, .ref (ad 228))] rfl ?_
  intro p e s m args below meth c hC hr
  rw [fX5_undo]
  refine hr_aload_n hC dX5_undo_0 rfl 0 rfl ?_
  refine hr_getR hC hiX5_undo_X5 rfl kx228 3 (by decide) hmX5_undo_26 rfl dX5_undo_1 ?_
  refine hr_callVr (As := []) (k := 229) hC rfl (tX1_removeLatest (t1 := t1) (t2 := t2) hI n μ) (cwV 0 hC.1.2.2.2.2 gX5_undo_X1_removeLatest rfl rfl rfl (by decide +kernel) ⟨Nat.le_of_ble_eq_true rfl, Nat.le_of_ble_eq_true rfl⟩) kx229 rfl rfl rfl (Nat.le_of_ble_eq_true rfl) dX5_undo_4 (fun m4 => ?_) (fun r4 m4 e4 => ?_)
  · refine hr_astoreN_n (lv' := [(1, .null), (0, .ref (ad 228))]) hC dX5_undo_7 rfl (by decide) rfl ?_
    refine hr_aloadN_n hC dX5_undo_8 rfl 0 rfl ?_
    refine hr_ifnonnullN hC dX5_undo_9 ?_
    refine hr_bipush (v := -5) hC dX5_undo_12 (by decide) ?_
    exact hr_ireti hC hr dX5_undo_14
  · refine hr_astore_n (lv' := [(1, .ref (ad r4)), (0, .ref (ad 228))]) hC dX5_undo_7 rfl (by decide) rfl ?_
    refine hr_aload_n hC dX5_undo_8 rfl 0 rfl ?_
    refine hr_ifnonnull (tgt := 15) hC dX5_undo_9 (by decide) ?_
    refine hr_aload_n hC dX5_undo_15 rfl 1 rfl ?_
    refine hr_getR hC hiX5_undo_X5 rfl kx228 0 (by decide) hmX5_undo_12 rfl dX5_undo_16 ?_
    refine hr_aload_n hC dX5_undo_19 rfl 0 rfl ?_
    refine hr_callVv (As := [.ref (ad r4)]) (k := 0) hC rfl (tX2_copyFrom (t1 := t1) (t2 := t2) hI n 0 hx_H0 r4 (vX1_removeLatest e4) m4) (cwV 1 hC.1.2.2.2.2 gX5_undo_X2_copyFrom rfl rfl rfl (by decide +kernel) ⟨Nat.le_of_ble_eq_true rfl, Nat.le_of_ble_eq_true rfl⟩) (kxH hx_H0) rfl rfl rfl (Nat.le_of_ble_eq_true rfl) dX5_undo_20 (fun m20 => ?_)
    refine hr_aload_n hC dX5_undo_23 rfl 1 rfl ?_
    refine hr_getR hC hiX5_undo_X5 rfl kx228 3 (by decide) hmX5_undo_26 rfl dX5_undo_24 ?_
    refine hr_getI hC hiX5_undo_X1 rfl kx229 2 (by decide) hmX5_undo_186 rfl dX5_undo_27 ?_
    exact hr_ireti hC hr dX5_undo_30
theorem hmX5_keep_16 : Cond.fieldLink RX5 16 "HeatBills" "snapshot" "LHeatBills$House;" ∈ wsX5_keep := List.mem_of_getElem? (i := 1) rfl
theorem hmX5_keep_12 : Cond.fieldLink RX5 12 "HeatBills" "now" "LHeatBills$House;" ∈ wsX5_keep := List.mem_of_getElem? (i := 2) rfl
theorem hmX5_keep_19 : Cond.fieldLink RX5 19 "HeatBills" "hasSnapshot" "Z" ∈ wsX5_keep := List.mem_of_getElem? (i := 3) rfl
theorem hmX5_keep_48 : Cond.fieldLink RX5 48 "HeatBills$House" "closedCount" "I" ∈ wsX5_keep := List.mem_of_getElem? (i := 4) rfl
theorem hiX5_keep_X5 : ∀ w ∈ wsX50, w ∈ wsX5_keep := fun _ h => List.mem_cons_of_mem _ (List.mem_append_left _ (List.mem_append_left _ (List.mem_append_right _ h)))
theorem hiX5_keep_X2 : ∀ w ∈ wsX20, w ∈ wsX5_keep := fun _ h => List.mem_cons_of_mem _ (List.mem_append_left _ (List.mem_append_right _ h))
def fX5_keep (n : Nat) (μ : hb_m) : Option (Int32 × hb_m) :=
bv (fX2_copyFrom n 38 0 μ) (fun m8 =>
some ((rd (wr m8 228 2 (1 : Int32)) 0 10), (wr m8 228 2 (1 : Int32))))
abbrev rmX5_keep : Room := { frames := 3, cells := 0, slots := 0, locals := 73 }
set_option maxRecDepth 100000 in
set_option maxHeartbeats 4000000 in
theorem tX5_keep {l : Launch} {D : va_G} {ad : Nat → Nat} {dA : Nat → ClassId} {t1 t2 : Nat} (hI : hb_I 241 ad) (n : Nat) (μ : hb_m) : hb_M (hb_Qi vwCl kdX 241 ad D dA) l yX5_keep wsX5_keep rmX5_keep vwCl kdX 241 ad D dA (tbX t1 t2) nwX [.ref (ad 228)] μ (fX5_keep n μ) := by
  refine hb_start (cc := cX5_keep) (maxL := 1) (ret := (some .int)) (by decide) rfl hI (Nat.le_of_ble_eq_true rfl) [(0, .ref (ad 228))] rfl ?_
  intro p e s m args below meth c hC hr
  rw [fX5_keep]
  refine hr_aload_n hC dX5_keep_0 rfl 0 rfl ?_
  refine hr_getR hC hiX5_keep_X5 rfl kx228 1 (by decide) hmX5_keep_16 rfl dX5_keep_1 ?_
  refine hr_aload_n hC dX5_keep_4 rfl 0 rfl ?_
  refine hr_getR hC hiX5_keep_X5 rfl kx228 0 (by decide) hmX5_keep_12 rfl dX5_keep_5 ?_
  refine hr_callVv (As := [.ref (ad 0)]) (k := 38) hC rfl (tX2_copyFrom (t1 := t1) (t2 := t2) hI n 38 hx_H1 0 hx_H0 μ) (cwV 1 hC.1.2.2.2.2 gX5_keep_X2_copyFrom rfl rfl rfl (by decide +kernel) ⟨Nat.le_of_ble_eq_true rfl, Nat.le_of_ble_eq_true rfl⟩) (kxH hx_H1) rfl rfl rfl (Nat.le_of_ble_eq_true rfl) dX5_keep_8 (fun m8 => ?_)
  refine hr_aload_n hC dX5_keep_11 rfl 0 rfl ?_
  refine hr_iconst (v := 1) hC dX5_keep_12 (by decide) ?_
  refine hr_putI hC hiX5_keep_X5 rfl kx228 2 (by decide) hmX5_keep_19 tyX5_ok nmX5 rfl rfl rfl rfl dX5_keep_13 ?_
  refine hr_aload_n hC dX5_keep_16 rfl 0 rfl ?_
  refine hr_getR hC hiX5_keep_X5 rfl kx228 0 (by decide) hmX5_keep_12 rfl dX5_keep_17 ?_
  refine hr_getI hC hiX5_keep_X2 rfl (kxH hx_H0) 10 (by decide) hmX5_keep_48 rfl dX5_keep_20 ?_
  exact hr_ireti hC hr dX5_keep_23
theorem hmX5_restore_19 : Cond.fieldLink RX5 19 "HeatBills" "hasSnapshot" "Z" ∈ wsX5_restore := List.mem_of_getElem? (i := 1) rfl
theorem hmX5_restore_26 : Cond.fieldLink RX5 26 "HeatBills" "history" "LHeatBills$History;" ∈ wsX5_restore := List.mem_of_getElem? (i := 2) rfl
theorem hmX5_restore_12 : Cond.fieldLink RX5 12 "HeatBills" "now" "LHeatBills$House;" ∈ wsX5_restore := List.mem_of_getElem? (i := 3) rfl
theorem hmX5_restore_16 : Cond.fieldLink RX5 16 "HeatBills" "snapshot" "LHeatBills$House;" ∈ wsX5_restore := List.mem_of_getElem? (i := 4) rfl
theorem hmX5_restore_48 : Cond.fieldLink RX5 48 "HeatBills$House" "closedCount" "I" ∈ wsX5_restore := List.mem_of_getElem? (i := 5) rfl
theorem hiX5_restore_X5 : ∀ w ∈ wsX50, w ∈ wsX5_restore := fun _ h => List.mem_cons_of_mem _ (List.mem_append_left _ (List.mem_append_left _ (List.mem_append_left _ (List.mem_append_right _ h))))
theorem hiX5_restore_X2 : ∀ w ∈ wsX20, w ∈ wsX5_restore := fun _ h => List.mem_cons_of_mem _ (List.mem_append_left _ (List.mem_append_left _ (List.mem_append_right _ h)))
def fX5_restore (n : Nat) (μ : hb_m) : Option (Int32 × hb_m) :=
if (rd μ 228 2) = 0 then
(some ((-5 : Int32), μ))
else
(bv (fX1_remember n 0 μ) (fun m18 =>
bv (fX2_copyFrom n 0 38 m18) (fun m29 =>
some ((rd m29 0 10), m29))))
abbrev rmX5_restore : Room := { frames := 4, cells := 0, slots := 0, locals := 94 }
set_option maxRecDepth 100000 in
set_option maxHeartbeats 4000000 in
theorem tX5_restore {l : Launch} {D : va_G} {ad : Nat → Nat} {dA : Nat → ClassId} {t1 t2 : Nat} (hI : hb_I 241 ad) (n : Nat) (μ : hb_m) : hb_M (hb_Qi vwCl kdX 241 ad D dA) l yX5_restore wsX5_restore rmX5_restore vwCl kdX 241 ad D dA (tbX t1 t2) nwX [.ref (ad 228)] μ (fX5_restore n μ) := by
  refine hb_start (cc := cX5_restore) (maxL := 1) (ret := (some .int)) (by decide) rfl hI (Nat.le_of_ble_eq_true rfl) [(0, .ref (ad 228))] rfl ?_
  intro p e s m args below meth c hC hr
  rw [fX5_restore]
  refine hr_aload_n hC dX5_restore_0 rfl 0 rfl ?_
  refine hr_getI hC hiX5_restore_X5 rfl kx228 2 (by decide) hmX5_restore_19 rfl dX5_restore_1 ?_
  refine hr_if_ne (tgt := 10) hC dX5_restore_4 (by decide) (fun _ => ?_) (fun _ => ?_)
  · refine hr_bipush (v := -5) hC dX5_restore_7 (by decide) ?_
    exact hr_ireti hC hr dX5_restore_9
  · refine hr_aload_n hC dX5_restore_10 rfl 0 rfl ?_
    refine hr_getR hC hiX5_restore_X5 rfl kx228 3 (by decide) hmX5_restore_26 rfl dX5_restore_11 ?_
    refine hr_aload_n hC dX5_restore_14 rfl 0 rfl ?_
    refine hr_getR hC hiX5_restore_X5 rfl kx228 0 (by decide) hmX5_restore_12 rfl dX5_restore_15 ?_
    refine hr_callVv (As := [.ref (ad 0)]) (k := 229) hC rfl (tX1_remember (t1 := t1) (t2 := t2) hI n 0 hx_H0 μ) (cwV 1 hC.1.2.2.2.2 gX5_restore_X1_remember rfl rfl rfl (by decide +kernel) ⟨Nat.le_of_ble_eq_true rfl, Nat.le_of_ble_eq_true rfl⟩) kx229 rfl rfl rfl (Nat.le_of_ble_eq_true rfl) dX5_restore_18 (fun m18 => ?_)
    refine hr_aload_n hC dX5_restore_21 rfl 0 rfl ?_
    refine hr_getR hC hiX5_restore_X5 rfl kx228 0 (by decide) hmX5_restore_12 rfl dX5_restore_22 ?_
    refine hr_aload_n hC dX5_restore_25 rfl 0 rfl ?_
    refine hr_getR hC hiX5_restore_X5 rfl kx228 1 (by decide) hmX5_restore_16 rfl dX5_restore_26 ?_
    refine hr_callVv (As := [.ref (ad 38)]) (k := 0) hC rfl (tX2_copyFrom (t1 := t1) (t2 := t2) hI n 0 hx_H0 38 hx_H1 m18) (cwV 1 hC.1.2.2.2.2 gX5_restore_X2_copyFrom rfl rfl rfl (by decide +kernel) ⟨Nat.le_of_ble_eq_true rfl, Nat.le_of_ble_eq_true rfl⟩) (kxH hx_H0) rfl rfl rfl (Nat.le_of_ble_eq_true rfl) dX5_restore_29 (fun m29 => ?_)
    refine hr_aload_n hC dX5_restore_32 rfl 0 rfl ?_
    refine hr_getR hC hiX5_restore_X5 rfl kx228 0 (by decide) hmX5_restore_12 rfl dX5_restore_33 ?_
    refine hr_getI hC hiX5_restore_X2 rfl (kxH hx_H0) 10 (by decide) hmX5_restore_48 rfl dX5_restore_36 ?_
    exact hr_ireti hC hr dX5_restore_39
theorem hmX2_devicesAsBits_44 : Cond.fieldLink RX2 44 "HeatBills$House" "openYear" "LHeatBills$Year;" ∈ wsX2_devicesAsBits := List.mem_of_getElem? (i := 1) rfl
theorem hmX2_devicesAsBits_71 : Cond.fieldLink RX2 71 "HeatBills$Year" "deviceCount" "I" ∈ wsX2_devicesAsBits := List.mem_of_getElem? (i := 2) rfl
theorem hmX2_devicesAsBits_19 : Cond.fieldLink RX2 19 "HeatBills$House" "deviceFlats" "[I" ∈ wsX2_devicesAsBits := List.mem_of_getElem? (i := 3) rfl
theorem hiX2_devicesAsBits_X2 : ∀ w ∈ wsX20, w ∈ wsX2_devicesAsBits := fun _ h => List.mem_cons_of_mem _ (List.mem_append_left _ (List.mem_append_right _ h))
theorem hiX2_devicesAsBits_X4 : ∀ w ∈ wsX40, w ∈ wsX2_devicesAsBits := fun _ h => List.mem_cons_of_mem _ (List.mem_append_right _ h)
def lX2_devicesAsBits_4 (n : Nat) (c0 : Nat) (p1 : Int32) (k : Int32 → Int32 → hb_m → Option (Int32 × hb_m)) : Nat → Int32 → Int32 → hb_m → Option (Int32 × hb_m)
  | 0, _, _, _ => none
  | f + 1, x3, x2, μ => if (rd μ (c0 + 8) 2) ≤ x3 then
(k x3 x2 μ)
else
(if ib x3 20 then
if (rd μ (c0 + 2) x3.toNatClampNeg) = p1 then
(lX2_devicesAsBits_4 n c0 p1 k f (x3 + (1 : Int32)) (x2 ||| ((1 : Int32) <<< (x3 &&& 31))) μ)
else
(lX2_devicesAsBits_4 n c0 p1 k f (x3 + (1 : Int32)) x2 μ)
else none)
def fX2_devicesAsBits (n : Nat) (c0 : Nat) (p1 : Int32) (μ : hb_m) : Option (Int32 × hb_m) :=
lX2_devicesAsBits_4 n c0 p1 (fun x3_4 x2_4 m4 =>
some (x2_4, m4)) n (0 : Int32) (0 : Int32) μ
abbrev rmX2_devicesAsBits : Room := { frames := 0, cells := 0, slots := 0, locals := 0 }
set_option maxRecDepth 100000 in
set_option maxHeartbeats 4000000 in
theorem tX2_devicesAsBits {l : Launch} {D : va_G} {ad : Nat → Nat} {dA : Nat → ClassId} {t1 t2 : Nat} (hI : hb_I 241 ad) (n : Nat) (c0 : Nat) (h0 : hx_H c0) (p1 : Int32) (μ : hb_m) : hb_M (hb_Qi vwCl kdX 241 ad D dA) l yX2_devicesAsBits wsX2_devicesAsBits rmX2_devicesAsBits vwCl kdX 241 ad D dA (tbX t1 t2) nwX [.ref (ad c0), .int p1] μ (fX2_devicesAsBits n c0 p1 μ) := by
  refine hb_start (cc := cX2_devicesAsBits) (maxL := 4) (ret := (some .int)) (by decide) rfl hI (Nat.le_of_ble_eq_true rfl) [(0, .ref (ad c0)), (1, .int p1)] rfl ?_
  intro p e s m args below meth c hC hr
  have L4 : ∀ (k : Int32 → Int32 → hb_m → Option (Int32 × hb_m)) (hk : ∀ (x3 : Int32) (x2 : Int32) (μ : hb_m), hb_V p l e rmX2_devicesAsBits s m args below meth c 4 vwCl kdX 241 ad D dA (hb_Qi vwCl kdX 241 ad D dA) μ 37 [(3, .int x3), (2, .int x2), (0, .ref (ad c0)), (1, .int p1)] [] (k x3 x2 μ)) (f : Nat) (x3 : Int32) (x2 : Int32) (μ : hb_m), hb_V p l e rmX2_devicesAsBits s m args below meth c 4 vwCl kdX 241 ad D dA (hb_Qi vwCl kdX 241 ad D dA) μ 4 [(3, .int x3), (2, .int x2), (0, .ref (ad c0)), (1, .int p1)] [] (lX2_devicesAsBits_4 n c0 p1 k f x3 x2 μ) := by
    intro k hk f
    induction f with
    | zero => intro x3 x2 μ; rw [lX2_devicesAsBits_4]; exact hr_none
    | succ f ih =>
      intro x3 x2 μ
      rw [lX2_devicesAsBits_4]
      refine hr_iload_n hC dX2_devicesAsBits_4 rfl 0 rfl ?_
      refine hr_aload_n hC dX2_devicesAsBits_5 rfl 2 rfl ?_
      refine hr_getR hC hiX2_devicesAsBits_X2 rfl (kxH h0) 9 (by decide) hmX2_devicesAsBits_44 rfl dX2_devicesAsBits_6 ?_
      refine hr_getI hC hiX2_devicesAsBits_X4 rfl (kxY (hx_Yo h0)) 2 (by decide) hmX2_devicesAsBits_71 rfl dX2_devicesAsBits_9 ?_
      refine hr_icmp_ge (tgt := 37) hC dX2_devicesAsBits_12 (by decide) (fun _ => ?_) (fun _ => ?_)
      · refine hr_sub (lv' := [(3, .int x3), (2, .int x2), (0, .ref (ad c0)), (1, .int p1)]) [0, 1, 2, 3] rfl ?_
        exact hk _ _ _
      · refine hr_aload_n hC dX2_devicesAsBits_15 rfl 2 rfl ?_
        refine hr_getR hC hiX2_devicesAsBits_X2 rfl (kxH h0) 2 (by decide) hmX2_devicesAsBits_19 rfl dX2_devicesAsBits_16 ?_
        refine hr_iload_n hC dX2_devicesAsBits_19 rfl 0 rfl ?_
        refine hr_iald hC (kxH2 h0) dX2_devicesAsBits_20 ?_
        refine hr_iload_n hC dX2_devicesAsBits_21 rfl 3 rfl ?_
        refine hr_icmp_ne (tgt := 31) hC dX2_devicesAsBits_22 (by decide) (fun _ => ?_) (fun _ => ?_)
        · refine hr_iload_n hC dX2_devicesAsBits_25 rfl 1 rfl ?_
          refine hr_iconst (v := 1) hC dX2_devicesAsBits_26 (by decide) ?_
          refine hr_iload_n hC dX2_devicesAsBits_27 rfl 0 rfl ?_
          refine hr_ishl hC dX2_devicesAsBits_28 ?_
          refine hr_ior hC dX2_devicesAsBits_29 ?_
          refine hr_istore_n (lv' := [(2, .int (x2 ||| ((1 : Int32) <<< (x3 &&& 31)))), (3, .int x3), (0, .ref (ad c0)), (1, .int p1)]) hC dX2_devicesAsBits_30 rfl (by decide) rfl ?_
          refine hr_iinc (v := (x3 + (1 : Int32))) (lv' := [(3, .int (x3 + (1 : Int32))), (2, .int (x2 ||| ((1 : Int32) <<< (x3 &&& 31)))), (0, .ref (ad c0)), (1, .int p1)]) (kx := 1) hC dX2_devicesAsBits_31 rfl rfl (by decide) rfl ?_
          refine hr_goto (tgt := 4) hC dX2_devicesAsBits_34 (by decide) ?_
          refine hr_sub (lv' := [(3, .int (x3 + (1 : Int32))), (2, .int (x2 ||| ((1 : Int32) <<< (x3 &&& 31)))), (0, .ref (ad c0)), (1, .int p1)]) [0, 1, 2, 3] rfl ?_
          exact ih _ _ _
        · refine hr_iinc (v := (x3 + (1 : Int32))) (lv' := [(3, .int (x3 + (1 : Int32))), (2, .int x2), (0, .ref (ad c0)), (1, .int p1)]) (kx := 0) hC dX2_devicesAsBits_31 rfl rfl (by decide) rfl ?_
          refine hr_goto (tgt := 4) hC dX2_devicesAsBits_34 (by decide) ?_
          refine hr_sub (lv' := [(3, .int (x3 + (1 : Int32))), (2, .int x2), (0, .ref (ad c0)), (1, .int p1)]) [0, 1, 2, 3] rfl ?_
          exact ih _ _ _
  rw [fX2_devicesAsBits]
  refine hr_iconst (v := 0) hC dX2_devicesAsBits_0 (by decide) ?_
  refine hr_istore_n (lv' := [(2, .int (0 : Int32)), (0, .ref (ad c0)), (1, .int p1)]) hC dX2_devicesAsBits_1 rfl (by decide) rfl ?_
  refine hr_iconst (v := 0) hC dX2_devicesAsBits_2 (by decide) ?_
  refine hr_istore_n (lv' := [(3, .int (0 : Int32)), (2, .int (0 : Int32)), (0, .ref (ad c0)), (1, .int p1)]) hC dX2_devicesAsBits_3 rfl (by decide) rfl ?_
  refine hr_sub (lv' := [(3, .int (0 : Int32)), (2, .int (0 : Int32)), (0, .ref (ad c0)), (1, .int p1)]) [0, 1, 2, 3] rfl ?_
  refine L4 _ (fun x3_4 x2_4 m4 => ?_) _ _ _ _
  refine hr_iload_n hC dX2_devicesAsBits_37 rfl 1 rfl ?_
  exact hr_ireti hC hr dX2_devicesAsBits_38

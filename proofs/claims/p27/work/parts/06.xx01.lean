theorem hmX4_copyFrom_9 : Cond.fieldLink RX4 9 "HeatBills$Year" "cost" "I" ∈ wsX4_copyFrom := List.mem_of_getElem? (i := 1) rfl
theorem hmX4_copyFrom_15 : Cond.fieldLink RX4 15 "HeatBills$Year" "baseShare" "I" ∈ wsX4_copyFrom := List.mem_of_getElem? (i := 2) rfl
theorem hmX4_copyFrom_18 : Cond.fieldLink RX4 18 "HeatBills$Year" "deviceCount" "I" ∈ wsX4_copyFrom := List.mem_of_getElem? (i := 3) rfl
theorem hmX4_copyFrom_21 : Cond.fieldLink RX4 21 "HeatBills$Year" "moveMonths" "[I" ∈ wsX4_copyFrom := List.mem_of_getElem? (i := 4) rfl
theorem hmX4_copyFrom_43a : Cond.methodLink RX4 43 arraycopyName ∈ wsX4_copyFrom := List.mem_of_getElem? (i := 5) rfl
theorem hmX4_copyFrom_nat : Cond.native arraycopyName ∈ wsX4_copyFrom := List.mem_of_getElem? (i := 6) rfl
theorem hmX4_copyFrom_sta : Cond.static arraycopyName ∈ wsX4_copyFrom := List.mem_of_getElem? (i := 7) rfl
theorem hmX4_copyFrom_ini : Cond.initialized "java/lang/System" ∈ wsX4_copyFrom := List.mem_of_getElem? (i := 8) rfl
theorem hmX4_copyFrom_25 : Cond.fieldLink RX4 25 "HeatBills$Year" "parts" "[I" ∈ wsX4_copyFrom := List.mem_of_getElem? (i := 9) rfl
theorem hmX4_copyFrom_28 : Cond.fieldLink RX4 28 "HeatBills$Year" "deviceUnits" "[I" ∈ wsX4_copyFrom := List.mem_of_getElem? (i := 10) rfl
theorem hmX4_copyFrom_31 : Cond.fieldLink RX4 31 "HeatBills$Year" "bills" "[I" ∈ wsX4_copyFrom := List.mem_of_getElem? (i := 11) rfl
theorem hmX4_copyFrom_34 : Cond.fieldLink RX4 34 "HeatBills$Year" "chargedAnew" "[I" ∈ wsX4_copyFrom := List.mem_of_getElem? (i := 12) rfl
theorem hiX4_copyFrom_X4 : ∀ w ∈ wsX40, w ∈ wsX4_copyFrom := fun _ h => List.mem_cons_of_mem _ (List.mem_append_right _ h)
def fX4_copyFrom (n : Nat) (c0 : Nat) (c1 : Nat) (μ : hb_m) : Option (hb_m) :=
if cb .int (wr (wr (wr μ c0 0 (rd μ c1 0)) c0 1 (rd (wr μ c0 0 (rd μ c1 0)) c1 1)) c0 2 (rd (wr (wr μ c0 0 (rd μ c1 0)) c0 1 (rd (wr μ c0 0 (rd μ c1 0)) c1 1)) c1 2)) (c1 + 1) 8 8 8 then
if cb .int (cpA (wr (wr (wr μ c0 0 (rd μ c1 0)) c0 1 (rd (wr μ c0 0 (rd μ c1 0)) c1 1)) c0 2 (rd (wr (wr μ c0 0 (rd μ c1 0)) c0 1 (rd (wr μ c0 0 (rd μ c1 0)) c1 1)) c1 2)) (c1 + 1) (c0 + 1) 8) (c1 + 2) 8 8 8 then
if cb .int (cpA (cpA (wr (wr (wr μ c0 0 (rd μ c1 0)) c0 1 (rd (wr μ c0 0 (rd μ c1 0)) c1 1)) c0 2 (rd (wr (wr μ c0 0 (rd μ c1 0)) c0 1 (rd (wr μ c0 0 (rd μ c1 0)) c1 1)) c1 2)) (c1 + 1) (c0 + 1) 8) (c1 + 2) (c0 + 2) 8) (c1 + 3) 20 20 20 then
if cb .int (cpA (cpA (cpA (wr (wr (wr μ c0 0 (rd μ c1 0)) c0 1 (rd (wr μ c0 0 (rd μ c1 0)) c1 1)) c0 2 (rd (wr (wr μ c0 0 (rd μ c1 0)) c0 1 (rd (wr μ c0 0 (rd μ c1 0)) c1 1)) c1 2)) (c1 + 1) (c0 + 1) 8) (c1 + 2) (c0 + 2) 8) (c1 + 3) (c0 + 3) 20) (c1 + 4) 16 16 16 then
if cb .int (cpA (cpA (cpA (cpA (wr (wr (wr μ c0 0 (rd μ c1 0)) c0 1 (rd (wr μ c0 0 (rd μ c1 0)) c1 1)) c0 2 (rd (wr (wr μ c0 0 (rd μ c1 0)) c0 1 (rd (wr μ c0 0 (rd μ c1 0)) c1 1)) c1 2)) (c1 + 1) (c0 + 1) 8) (c1 + 2) (c0 + 2) 8) (c1 + 3) (c0 + 3) 20) (c1 + 4) (c0 + 4) 16) (c1 + 5) 16 16 16 then
some (cpA (cpA (cpA (cpA (cpA (wr (wr (wr μ c0 0 (rd μ c1 0)) c0 1 (rd (wr μ c0 0 (rd μ c1 0)) c1 1)) c0 2 (rd (wr (wr μ c0 0 (rd μ c1 0)) c0 1 (rd (wr μ c0 0 (rd μ c1 0)) c1 1)) c1 2)) (c1 + 1) (c0 + 1) 8) (c1 + 2) (c0 + 2) 8) (c1 + 3) (c0 + 3) 20) (c1 + 4) (c0 + 4) 16) (c1 + 5) (c0 + 5) 16)
else none
else none
else none
else none
else none
abbrev rmX4_copyFrom : Room := { frames := 1, cells := 0, slots := 0, locals := 30 }
set_option maxRecDepth 100000 in
set_option maxHeartbeats 4000000 in
theorem tX4_copyFrom {l : Launch} {D : va_G} {ad : Nat → Nat} {dA : Nat → ClassId} {t1 t2 : Nat} (hI : hb_I 241 ad) (n : Nat) (c0 : Nat) (h0 : hx_Y c0) (c1 : Nat) (h1 : hx_Y c1) (μ : hb_m) : hb_M (hb_Qv vwCl kdX 241 ad D dA) l yX4_copyFrom wsX4_copyFrom rmX4_copyFrom vwCl kdX 241 ad D dA (tbX t1 t2) nwX [.ref (ad c0), .ref (ad c1)] μ (fX4_copyFrom n c0 c1 μ) := by
  refine hb_start (cc := cX4_copyFrom) (maxL := 2) (ret := none) (by decide) rfl hI (Nat.le_of_ble_eq_true rfl) [(0, .ref (ad c0)), (1, .ref (ad c1))] rfl ?_
  intro p e s m args below meth c hC hr
  rw [fX4_copyFrom]
  refine hr_aload_n hC dX4_copyFrom_0 rfl 0 rfl ?_
  refine hr_aload_n hC dX4_copyFrom_1 rfl 1 rfl ?_
  refine hr_getI hC hiX4_copyFrom_X4 rfl (kxY h1) 0 (by decide) hmX4_copyFrom_9 rfl dX4_copyFrom_2 ?_
  refine hr_putI hC hiX4_copyFrom_X4 rfl (kxY h0) 0 (by decide) hmX4_copyFrom_9 tyX4_ok nmX4 rfl rfl rfl rfl dX4_copyFrom_5 ?_
  refine hr_aload_n hC dX4_copyFrom_8 rfl 0 rfl ?_
  refine hr_aload_n hC dX4_copyFrom_9 rfl 1 rfl ?_
  refine hr_getI hC hiX4_copyFrom_X4 rfl (kxY h1) 1 (by decide) hmX4_copyFrom_15 rfl dX4_copyFrom_10 ?_
  refine hr_putI hC hiX4_copyFrom_X4 rfl (kxY h0) 1 (by decide) hmX4_copyFrom_15 tyX4_ok nmX4 rfl rfl rfl rfl dX4_copyFrom_13 ?_
  refine hr_aload_n hC dX4_copyFrom_16 rfl 0 rfl ?_
  refine hr_aload_n hC dX4_copyFrom_17 rfl 1 rfl ?_
  refine hr_getI hC hiX4_copyFrom_X4 rfl (kxY h1) 2 (by decide) hmX4_copyFrom_18 rfl dX4_copyFrom_18 ?_
  refine hr_putI hC hiX4_copyFrom_X4 rfl (kxY h0) 2 (by decide) hmX4_copyFrom_18 tyX4_ok nmX4 rfl rfl rfl rfl dX4_copyFrom_21 ?_
  refine hr_aload_n hC dX4_copyFrom_24 rfl 1 rfl ?_
  refine hr_getR hC hiX4_copyFrom_X4 rfl (kxY h1) 3 (by decide) hmX4_copyFrom_21 rfl dX4_copyFrom_25 ?_
  refine hr_iconst (v := 0) hC dX4_copyFrom_28 (by decide) ?_
  refine hr_aload_n hC dX4_copyFrom_29 rfl 0 rfl ?_
  refine hr_getR hC hiX4_copyFrom_X4 rfl (kxY h0) 3 (by decide) hmX4_copyFrom_21 rfl dX4_copyFrom_30 ?_
  refine hr_iconst (v := 0) hC dX4_copyFrom_33 (by decide) ?_
  refine hr_bipush (v := 8) hC dX4_copyFrom_34 (by decide) ?_
  refine hr_copy (n := 8) hC hmX4_copyFrom_43a hmX4_copyFrom_nat hmX4_copyFrom_sta hmX4_copyFrom_ini (kxY1 h1) (kxY1 h0) rfl rfl (by decide) ⟨Nat.le_of_ble_eq_true rfl, Nat.le_of_ble_eq_true rfl⟩ dX4_copyFrom_36 ?_
  refine hr_aload_n hC dX4_copyFrom_39 rfl 1 rfl ?_
  refine hr_getR hC hiX4_copyFrom_X4 rfl (kxY h1) 4 (by decide) hmX4_copyFrom_25 rfl dX4_copyFrom_40 ?_
  refine hr_iconst (v := 0) hC dX4_copyFrom_43 (by decide) ?_
  refine hr_aload_n hC dX4_copyFrom_44 rfl 0 rfl ?_
  refine hr_getR hC hiX4_copyFrom_X4 rfl (kxY h0) 4 (by decide) hmX4_copyFrom_25 rfl dX4_copyFrom_45 ?_
  refine hr_iconst (v := 0) hC dX4_copyFrom_48 (by decide) ?_
  refine hr_bipush (v := 8) hC dX4_copyFrom_49 (by decide) ?_
  refine hr_copy (n := 8) hC hmX4_copyFrom_43a hmX4_copyFrom_nat hmX4_copyFrom_sta hmX4_copyFrom_ini (kxY2 h1) (kxY2 h0) rfl rfl (by decide) ⟨Nat.le_of_ble_eq_true rfl, Nat.le_of_ble_eq_true rfl⟩ dX4_copyFrom_51 ?_
  refine hr_aload_n hC dX4_copyFrom_54 rfl 1 rfl ?_
  refine hr_getR hC hiX4_copyFrom_X4 rfl (kxY h1) 5 (by decide) hmX4_copyFrom_28 rfl dX4_copyFrom_55 ?_
  refine hr_iconst (v := 0) hC dX4_copyFrom_58 (by decide) ?_
  refine hr_aload_n hC dX4_copyFrom_59 rfl 0 rfl ?_
  refine hr_getR hC hiX4_copyFrom_X4 rfl (kxY h0) 5 (by decide) hmX4_copyFrom_28 rfl dX4_copyFrom_60 ?_
  refine hr_iconst (v := 0) hC dX4_copyFrom_63 (by decide) ?_
  refine hr_bipush (v := 20) hC dX4_copyFrom_64 (by decide) ?_
  refine hr_copy (n := 20) hC hmX4_copyFrom_43a hmX4_copyFrom_nat hmX4_copyFrom_sta hmX4_copyFrom_ini (kxY3 h1) (kxY3 h0) rfl rfl (by decide) ⟨Nat.le_of_ble_eq_true rfl, Nat.le_of_ble_eq_true rfl⟩ dX4_copyFrom_66 ?_
  refine hr_aload_n hC dX4_copyFrom_69 rfl 1 rfl ?_
  refine hr_getR hC hiX4_copyFrom_X4 rfl (kxY h1) 6 (by decide) hmX4_copyFrom_31 rfl dX4_copyFrom_70 ?_
  refine hr_iconst (v := 0) hC dX4_copyFrom_73 (by decide) ?_
  refine hr_aload_n hC dX4_copyFrom_74 rfl 0 rfl ?_
  refine hr_getR hC hiX4_copyFrom_X4 rfl (kxY h0) 6 (by decide) hmX4_copyFrom_31 rfl dX4_copyFrom_75 ?_
  refine hr_iconst (v := 0) hC dX4_copyFrom_78 (by decide) ?_
  refine hr_bipush (v := 16) hC dX4_copyFrom_79 (by decide) ?_
  refine hr_copy (n := 16) hC hmX4_copyFrom_43a hmX4_copyFrom_nat hmX4_copyFrom_sta hmX4_copyFrom_ini (kxY4 h1) (kxY4 h0) rfl rfl (by decide) ⟨Nat.le_of_ble_eq_true rfl, Nat.le_of_ble_eq_true rfl⟩ dX4_copyFrom_81 ?_
  refine hr_aload_n hC dX4_copyFrom_84 rfl 1 rfl ?_
  refine hr_getR hC hiX4_copyFrom_X4 rfl (kxY h1) 7 (by decide) hmX4_copyFrom_34 rfl dX4_copyFrom_85 ?_
  refine hr_iconst (v := 0) hC dX4_copyFrom_88 (by decide) ?_
  refine hr_aload_n hC dX4_copyFrom_89 rfl 0 rfl ?_
  refine hr_getR hC hiX4_copyFrom_X4 rfl (kxY h0) 7 (by decide) hmX4_copyFrom_34 rfl dX4_copyFrom_90 ?_
  refine hr_iconst (v := 0) hC dX4_copyFrom_93 (by decide) ?_
  refine hr_bipush (v := 16) hC dX4_copyFrom_94 (by decide) ?_
  refine hr_copy (n := 16) hC hmX4_copyFrom_43a hmX4_copyFrom_nat hmX4_copyFrom_sta hmX4_copyFrom_ini (kxY5 h1) (kxY5 h0) rfl rfl (by decide) ⟨Nat.le_of_ble_eq_true rfl, Nat.le_of_ble_eq_true rfl⟩ dX4_copyFrom_96 ?_
  exact hr_vret hC hr dX4_copyFrom_99
theorem hmX2_copyFrom_9 : Cond.fieldLink RX2 9 "HeatBills$House" "flatCount" "I" ∈ wsX2_copyFrom := List.mem_of_getElem? (i := 1) rfl
theorem hmX2_copyFrom_15 : Cond.fieldLink RX2 15 "HeatBills$House" "areas" "[I" ∈ wsX2_copyFrom := List.mem_of_getElem? (i := 2) rfl
theorem hmX2_copyFrom_55a : Cond.methodLink RX2 55 arraycopyName ∈ wsX2_copyFrom := List.mem_of_getElem? (i := 3) rfl
theorem hmX2_copyFrom_nat : Cond.native arraycopyName ∈ wsX2_copyFrom := List.mem_of_getElem? (i := 4) rfl
theorem hmX2_copyFrom_sta : Cond.static arraycopyName ∈ wsX2_copyFrom := List.mem_of_getElem? (i := 5) rfl
theorem hmX2_copyFrom_ini : Cond.initialized "java/lang/System" ∈ wsX2_copyFrom := List.mem_of_getElem? (i := 6) rfl
theorem hmX2_copyFrom_19 : Cond.fieldLink RX2 19 "HeatBills$House" "deviceFlats" "[I" ∈ wsX2_copyFrom := List.mem_of_getElem? (i := 7) rfl
theorem hmX2_copyFrom_22 : Cond.fieldLink RX2 22 "HeatBills$House" "factors" "[I" ∈ wsX2_copyFrom := List.mem_of_getElem? (i := 8) rfl
theorem hmX2_copyFrom_25 : Cond.fieldLink RX2 25 "HeatBills$House" "beginReadings" "[I" ∈ wsX2_copyFrom := List.mem_of_getElem? (i := 9) rfl
theorem hmX2_copyFrom_28 : Cond.fieldLink RX2 28 "HeatBills$House" "endReadings" "[I" ∈ wsX2_copyFrom := List.mem_of_getElem? (i := 10) rfl
theorem hmX2_copyFrom_31 : Cond.fieldLink RX2 31 "HeatBills$House" "faulty" "[Z" ∈ wsX2_copyFrom := List.mem_of_getElem? (i := 11) rfl
theorem hmX2_copyFrom_35 : Cond.fieldLink RX2 35 "HeatBills$House" "manner" "I" ∈ wsX2_copyFrom := List.mem_of_getElem? (i := 12) rfl
theorem hmX2_copyFrom_38 : Cond.fieldLink RX2 38 "HeatBills$House" "corrections" "I" ∈ wsX2_copyFrom := List.mem_of_getElem? (i := 13) rfl
theorem hmX2_copyFrom_44 : Cond.fieldLink RX2 44 "HeatBills$House" "openYear" "LHeatBills$Year;" ∈ wsX2_copyFrom := List.mem_of_getElem? (i := 14) rfl
theorem hmX2_copyFrom_48 : Cond.fieldLink RX2 48 "HeatBills$House" "closedCount" "I" ∈ wsX2_copyFrom := List.mem_of_getElem? (i := 15) rfl
theorem hmX2_copyFrom_51 : Cond.fieldLink RX2 51 "HeatBills$House" "closedYears" "[LHeatBills$Year;" ∈ wsX2_copyFrom := List.mem_of_getElem? (i := 16) rfl
theorem hiX2_copyFrom_X2 : ∀ w ∈ wsX20, w ∈ wsX2_copyFrom := fun _ h => List.mem_cons_of_mem _ (List.mem_append_left _ (List.mem_append_right _ h))
def lX2_copyFrom_85 (n : Nat) (c0 : Nat) (c1 : Nat) (k : Int32 → hb_m → Option (hb_m)) : Nat → Int32 → hb_m → Option (hb_m)
  | 0, _, _ => none
  | f + 1, x2, μ => if (20 : Int32) ≤ x2 then
(k x2 μ)
else
(if ib x2 20 then
if ib x2 20 then
lX2_copyFrom_85 n c0 c1 k f (x2 + (1 : Int32)) (wr μ (c0 + 6) x2.toNatClampNeg (vp_nar .boolean (rd μ (c1 + 6) x2.toNatClampNeg)))
else none
else none)
def lX2_copyFrom_146 (n : Nat) (c0 : Nat) (c1 : Nat) (k : Int32 → hb_m → Option (hb_m)) : Nat → Int32 → hb_m → Option (hb_m)
  | 0, _, _ => none
  | f + 1, x2, μ => if (4 : Int32) ≤ x2 then
(k x2 μ)
else
(if ib x2 4 then
if ib x2 4 then
bv (fX4_copyFrom n (c0 + 14 + 6 * x2.toNatClampNeg) (c1 + 14 + 6 * x2.toNatClampNeg) μ) (fun m163 =>
lX2_copyFrom_146 n c0 c1 k f (x2 + (1 : Int32)) m163)
else none
else none)
def fX2_copyFrom (n : Nat) (c0 : Nat) (c1 : Nat) (μ : hb_m) : Option (hb_m) :=
if cb .int (wr μ c0 0 (rd μ c1 0)) (c1 + 1) 8 8 8 then
if cb .int (cpA (wr μ c0 0 (rd μ c1 0)) (c1 + 1) (c0 + 1) 8) (c1 + 2) 20 20 20 then
if cb .int (cpA (cpA (wr μ c0 0 (rd μ c1 0)) (c1 + 1) (c0 + 1) 8) (c1 + 2) (c0 + 2) 20) (c1 + 3) 20 20 20 then
if cb .int (cpA (cpA (cpA (wr μ c0 0 (rd μ c1 0)) (c1 + 1) (c0 + 1) 8) (c1 + 2) (c0 + 2) 20) (c1 + 3) (c0 + 3) 20) (c1 + 4) 20 20 20 then
if cb .int (cpA (cpA (cpA (cpA (wr μ c0 0 (rd μ c1 0)) (c1 + 1) (c0 + 1) 8) (c1 + 2) (c0 + 2) 20) (c1 + 3) (c0 + 3) 20) (c1 + 4) (c0 + 4) 20) (c1 + 5) 20 20 20 then
lX2_copyFrom_85 n c0 c1 (fun x2_85 m85 =>
bv (fX4_copyFrom n (c0 + 8) (c1 + 8) (wr (wr m85 c0 7 (rd m85 c1 7)) c0 8 (rd (wr m85 c0 7 (rd m85 c1 7)) c1 8))) (fun m133 =>
lX2_copyFrom_146 n c0 c1 (fun x2_146 m146 =>
some m146) n (0 : Int32) (wr m133 c0 10 (rd m133 c1 10)))) n (0 : Int32) (cpA (cpA (cpA (cpA (cpA (wr μ c0 0 (rd μ c1 0)) (c1 + 1) (c0 + 1) 8) (c1 + 2) (c0 + 2) 20) (c1 + 3) (c0 + 3) 20) (c1 + 4) (c0 + 4) 20) (c1 + 5) (c0 + 5) 20)
else none
else none
else none
else none
else none
abbrev rmX2_copyFrom : Room := { frames := 2, cells := 0, slots := 0, locals := 51 }
set_option maxRecDepth 100000 in
set_option maxHeartbeats 4000000 in
theorem tX2_copyFrom {l : Launch} {D : va_G} {ad : Nat → Nat} {dA : Nat → ClassId} {t1 t2 : Nat} (hI : hb_I 241 ad) (n : Nat) (c0 : Nat) (h0 : hx_H c0) (c1 : Nat) (h1 : hx_H c1) (μ : hb_m) : hb_M (hb_Qv vwCl kdX 241 ad D dA) l yX2_copyFrom wsX2_copyFrom rmX2_copyFrom vwCl kdX 241 ad D dA (tbX t1 t2) nwX [.ref (ad c0), .ref (ad c1)] μ (fX2_copyFrom n c0 c1 μ) := by
  refine hb_start (cc := cX2_copyFrom) (maxL := 3) (ret := none) (by decide) rfl hI (Nat.le_of_ble_eq_true rfl) [(0, .ref (ad c0)), (1, .ref (ad c1))] rfl ?_
  intro p e s m args below meth c hC hr
  have L85 : ∀ (k : Int32 → hb_m → Option (hb_m)) (hk : ∀ (x2 : Int32) (μ : hb_m), hb_V p l e rmX2_copyFrom s m args below meth c 3 vwCl kdX 241 ad D dA (hb_Qv vwCl kdX 241 ad D dA) μ 109 [(2, .int x2), (0, .ref (ad c0)), (1, .ref (ad c1))] [] (k x2 μ)) (f : Nat) (x2 : Int32) (μ : hb_m), hb_V p l e rmX2_copyFrom s m args below meth c 3 vwCl kdX 241 ad D dA (hb_Qv vwCl kdX 241 ad D dA) μ 85 [(2, .int x2), (0, .ref (ad c0)), (1, .ref (ad c1))] [] (lX2_copyFrom_85 n c0 c1 k f x2 μ) := by
    intro k hk f
    induction f with
    | zero => intro x2 μ; rw [lX2_copyFrom_85]; exact hr_none
    | succ f ih =>
      intro x2 μ
      rw [lX2_copyFrom_85]
      refine hr_iload_n hC dX2_copyFrom_85 rfl 0 rfl ?_
      refine hr_bipush (v := 20) hC dX2_copyFrom_86 (by decide) ?_
      refine hr_icmp_ge (tgt := 109) hC dX2_copyFrom_88 (by decide) (fun _ => ?_) (fun _ => ?_)
      · refine hr_sub (lv' := [(2, .int x2), (0, .ref (ad c0)), (1, .ref (ad c1))]) [0, 1, 2] rfl ?_
        exact hk _ _
      · refine hr_aload_n hC dX2_copyFrom_91 rfl 1 rfl ?_
        refine hr_getR hC hiX2_copyFrom_X2 rfl (kxH h0) 6 (by decide) hmX2_copyFrom_31 rfl dX2_copyFrom_92 ?_
        refine hr_iload_n hC dX2_copyFrom_95 rfl 0 rfl ?_
        refine hr_aload_n hC dX2_copyFrom_96 rfl 2 rfl ?_
        refine hr_getR hC hiX2_copyFrom_X2 rfl (kxH h1) 6 (by decide) hmX2_copyFrom_31 rfl dX2_copyFrom_97 ?_
        refine hr_iload_n hC dX2_copyFrom_100 rfl 0 rfl ?_
        refine hr_zald hC (kxH6 h1) dX2_copyFrom_101 ?_
        refine hr_zast hC (kxH6 h0) dX2_copyFrom_102 ?_
        refine hr_iinc (v := (x2 + (1 : Int32))) (lv' := [(2, .int (x2 + (1 : Int32))), (0, .ref (ad c0)), (1, .ref (ad c1))]) (kx := 0) hC dX2_copyFrom_103 rfl rfl (by decide) rfl ?_
        refine hr_goto (tgt := 85) hC dX2_copyFrom_106 (by decide) ?_
        refine hr_sub (lv' := [(2, .int (x2 + (1 : Int32))), (0, .ref (ad c0)), (1, .ref (ad c1))]) [0, 1, 2] rfl ?_
        exact ih _ _
  have L146 : ∀ (k : Int32 → hb_m → Option (hb_m)) (hk : ∀ (x2 : Int32) (μ : hb_m), hb_V p l e rmX2_copyFrom s m args below meth c 3 vwCl kdX 241 ad D dA (hb_Qv vwCl kdX 241 ad D dA) μ 172 [(2, .int x2), (0, .ref (ad c0)), (1, .ref (ad c1))] [] (k x2 μ)) (f : Nat) (x2 : Int32) (μ : hb_m), hb_V p l e rmX2_copyFrom s m args below meth c 3 vwCl kdX 241 ad D dA (hb_Qv vwCl kdX 241 ad D dA) μ 146 [(2, .int x2), (0, .ref (ad c0)), (1, .ref (ad c1))] [] (lX2_copyFrom_146 n c0 c1 k f x2 μ) := by
    intro k hk f
    induction f with
    | zero => intro x2 μ; rw [lX2_copyFrom_146]; exact hr_none
    | succ f ih =>
      intro x2 μ
      rw [lX2_copyFrom_146]
      refine hr_iload_n hC dX2_copyFrom_146 rfl 0 rfl ?_
      refine hr_iconst (v := 4) hC dX2_copyFrom_147 (by decide) ?_
      refine hr_icmp_ge (tgt := 172) hC dX2_copyFrom_148 (by decide) (fun _ => ?_) (fun _ => ?_)
      · refine hr_sub (lv' := [(2, .int x2), (0, .ref (ad c0)), (1, .ref (ad c1))]) [0, 1, 2] rfl ?_
        exact hk _ _
      · refine hr_aload_n hC dX2_copyFrom_151 rfl 1 rfl ?_
        refine hr_getR hC hiX2_copyFrom_X2 rfl (kxH h0) 11 (by decide) hmX2_copyFrom_51 rfl dX2_copyFrom_152 ?_
        refine hr_iload_n hC dX2_copyFrom_155 rfl 0 rfl ?_
        refine hr_aald hC (fun j => c0 + 14 + 6 * j) 4 (kxH7 h0) rfl (kxH7c c0) dX2_copyFrom_156 (fun hlt156 => ?_)
        refine hr_aload_n hC dX2_copyFrom_157 rfl 2 rfl ?_
        refine hr_getR hC hiX2_copyFrom_X2 rfl (kxH h1) 11 (by decide) hmX2_copyFrom_51 rfl dX2_copyFrom_158 ?_
        refine hr_iload_n hC dX2_copyFrom_161 rfl 0 rfl ?_
        refine hr_aald hC (fun j => c1 + 14 + 6 * j) 4 (kxH7 h1) rfl (kxH7c c1) dX2_copyFrom_162 (fun hlt162 => ?_)
        refine hr_callVv (As := [.ref (ad (c1 + 14 + 6 * x2.toNatClampNeg))]) (k := (c0 + 14 + 6 * x2.toNatClampNeg)) hC rfl (tX4_copyFrom (t1 := t1) (t2 := t2) hI n (c0 + 14 + 6 * x2.toNatClampNeg) (hx_Yc h0 hlt156) (c1 + 14 + 6 * x2.toNatClampNeg) (hx_Yc h1 hlt162) μ) (cwV 1 hC.1.2.2.2.2 gX2_copyFrom_X4_copyFrom rfl rfl rfl (by decide +kernel) ⟨Nat.le_of_ble_eq_true rfl, Nat.le_of_ble_eq_true rfl⟩) (kxY (hx_Yc h0 hlt156)) rfl rfl rfl (Nat.le_of_ble_eq_true rfl) dX2_copyFrom_163 (fun m163 => ?_)
        refine hr_iinc (v := (x2 + (1 : Int32))) (lv' := [(2, .int (x2 + (1 : Int32))), (0, .ref (ad c0)), (1, .ref (ad c1))]) (kx := 0) hC dX2_copyFrom_166 rfl rfl (by decide) rfl ?_
        refine hr_goto (tgt := 146) hC dX2_copyFrom_169 (by decide) ?_
        refine hr_sub (lv' := [(2, .int (x2 + (1 : Int32))), (0, .ref (ad c0)), (1, .ref (ad c1))]) [0, 1, 2] rfl ?_
        exact ih _ _
  rw [fX2_copyFrom]
  refine hr_aload_n hC dX2_copyFrom_0 rfl 0 rfl ?_
  refine hr_aload_n hC dX2_copyFrom_1 rfl 1 rfl ?_
  refine hr_getI hC hiX2_copyFrom_X2 rfl (kxH h1) 0 (by decide) hmX2_copyFrom_9 rfl dX2_copyFrom_2 ?_
  refine hr_putI hC hiX2_copyFrom_X2 rfl (kxH h0) 0 (by decide) hmX2_copyFrom_9 tyX2_ok nmX2 rfl rfl rfl rfl dX2_copyFrom_5 ?_
  refine hr_aload_n hC dX2_copyFrom_8 rfl 1 rfl ?_
  refine hr_getR hC hiX2_copyFrom_X2 rfl (kxH h1) 1 (by decide) hmX2_copyFrom_15 rfl dX2_copyFrom_9 ?_
  refine hr_iconst (v := 0) hC dX2_copyFrom_12 (by decide) ?_
  refine hr_aload_n hC dX2_copyFrom_13 rfl 0 rfl ?_
  refine hr_getR hC hiX2_copyFrom_X2 rfl (kxH h0) 1 (by decide) hmX2_copyFrom_15 rfl dX2_copyFrom_14 ?_
  refine hr_iconst (v := 0) hC dX2_copyFrom_17 (by decide) ?_
  refine hr_bipush (v := 8) hC dX2_copyFrom_18 (by decide) ?_
  refine hr_copy (n := 8) hC hmX2_copyFrom_55a hmX2_copyFrom_nat hmX2_copyFrom_sta hmX2_copyFrom_ini (kxH1 h1) (kxH1 h0) rfl rfl (by decide) ⟨Nat.le_of_ble_eq_true rfl, Nat.le_of_ble_eq_true rfl⟩ dX2_copyFrom_20 ?_
  refine hr_aload_n hC dX2_copyFrom_23 rfl 1 rfl ?_
  refine hr_getR hC hiX2_copyFrom_X2 rfl (kxH h1) 2 (by decide) hmX2_copyFrom_19 rfl dX2_copyFrom_24 ?_
  refine hr_iconst (v := 0) hC dX2_copyFrom_27 (by decide) ?_
  refine hr_aload_n hC dX2_copyFrom_28 rfl 0 rfl ?_
  refine hr_getR hC hiX2_copyFrom_X2 rfl (kxH h0) 2 (by decide) hmX2_copyFrom_19 rfl dX2_copyFrom_29 ?_
  refine hr_iconst (v := 0) hC dX2_copyFrom_32 (by decide) ?_
  refine hr_bipush (v := 20) hC dX2_copyFrom_33 (by decide) ?_
  refine hr_copy (n := 20) hC hmX2_copyFrom_55a hmX2_copyFrom_nat hmX2_copyFrom_sta hmX2_copyFrom_ini (kxH2 h1) (kxH2 h0) rfl rfl (by decide) ⟨Nat.le_of_ble_eq_true rfl, Nat.le_of_ble_eq_true rfl⟩ dX2_copyFrom_35 ?_
  refine hr_aload_n hC dX2_copyFrom_38 rfl 1 rfl ?_
  refine hr_getR hC hiX2_copyFrom_X2 rfl (kxH h1) 3 (by decide) hmX2_copyFrom_22 rfl dX2_copyFrom_39 ?_
  refine hr_iconst (v := 0) hC dX2_copyFrom_42 (by decide) ?_
  refine hr_aload_n hC dX2_copyFrom_43 rfl 0 rfl ?_
  refine hr_getR hC hiX2_copyFrom_X2 rfl (kxH h0) 3 (by decide) hmX2_copyFrom_22 rfl dX2_copyFrom_44 ?_
  refine hr_iconst (v := 0) hC dX2_copyFrom_47 (by decide) ?_
  refine hr_bipush (v := 20) hC dX2_copyFrom_48 (by decide) ?_
  refine hr_copy (n := 20) hC hmX2_copyFrom_55a hmX2_copyFrom_nat hmX2_copyFrom_sta hmX2_copyFrom_ini (kxH3 h1) (kxH3 h0) rfl rfl (by decide) ⟨Nat.le_of_ble_eq_true rfl, Nat.le_of_ble_eq_true rfl⟩ dX2_copyFrom_50 ?_
  refine hr_aload_n hC dX2_copyFrom_53 rfl 1 rfl ?_
  refine hr_getR hC hiX2_copyFrom_X2 rfl (kxH h1) 4 (by decide) hmX2_copyFrom_25 rfl dX2_copyFrom_54 ?_
  refine hr_iconst (v := 0) hC dX2_copyFrom_57 (by decide) ?_
  refine hr_aload_n hC dX2_copyFrom_58 rfl 0 rfl ?_
  refine hr_getR hC hiX2_copyFrom_X2 rfl (kxH h0) 4 (by decide) hmX2_copyFrom_25 rfl dX2_copyFrom_59 ?_
  refine hr_iconst (v := 0) hC dX2_copyFrom_62 (by decide) ?_
  refine hr_bipush (v := 20) hC dX2_copyFrom_63 (by decide) ?_
  refine hr_copy (n := 20) hC hmX2_copyFrom_55a hmX2_copyFrom_nat hmX2_copyFrom_sta hmX2_copyFrom_ini (kxH4 h1) (kxH4 h0) rfl rfl (by decide) ⟨Nat.le_of_ble_eq_true rfl, Nat.le_of_ble_eq_true rfl⟩ dX2_copyFrom_65 ?_
  refine hr_aload_n hC dX2_copyFrom_68 rfl 1 rfl ?_
  refine hr_getR hC hiX2_copyFrom_X2 rfl (kxH h1) 5 (by decide) hmX2_copyFrom_28 rfl dX2_copyFrom_69 ?_
  refine hr_iconst (v := 0) hC dX2_copyFrom_72 (by decide) ?_
  refine hr_aload_n hC dX2_copyFrom_73 rfl 0 rfl ?_
  refine hr_getR hC hiX2_copyFrom_X2 rfl (kxH h0) 5 (by decide) hmX2_copyFrom_28 rfl dX2_copyFrom_74 ?_
  refine hr_iconst (v := 0) hC dX2_copyFrom_77 (by decide) ?_
  refine hr_bipush (v := 20) hC dX2_copyFrom_78 (by decide) ?_
  refine hr_copy (n := 20) hC hmX2_copyFrom_55a hmX2_copyFrom_nat hmX2_copyFrom_sta hmX2_copyFrom_ini (kxH5 h1) (kxH5 h0) rfl rfl (by decide) ⟨Nat.le_of_ble_eq_true rfl, Nat.le_of_ble_eq_true rfl⟩ dX2_copyFrom_80 ?_
  refine hr_iconst (v := 0) hC dX2_copyFrom_83 (by decide) ?_
  refine hr_istore_n (lv' := [(2, .int (0 : Int32)), (0, .ref (ad c0)), (1, .ref (ad c1))]) hC dX2_copyFrom_84 rfl (by decide) rfl ?_
  refine hr_sub (lv' := [(2, .int (0 : Int32)), (0, .ref (ad c0)), (1, .ref (ad c1))]) [0, 1, 2] rfl ?_
  refine L85 _ (fun x2_85 m85 => ?_) _ _ _
  refine hr_aload_n hC dX2_copyFrom_109 rfl 1 rfl ?_
  refine hr_aload_n hC dX2_copyFrom_110 rfl 2 rfl ?_
  refine hr_getI hC hiX2_copyFrom_X2 rfl (kxH h1) 7 (by decide) hmX2_copyFrom_35 rfl dX2_copyFrom_111 ?_
  refine hr_putI hC hiX2_copyFrom_X2 rfl (kxH h0) 7 (by decide) hmX2_copyFrom_35 tyX2_ok nmX2 rfl rfl rfl rfl dX2_copyFrom_114 ?_
  refine hr_aload_n hC dX2_copyFrom_117 rfl 1 rfl ?_
  refine hr_aload_n hC dX2_copyFrom_118 rfl 2 rfl ?_
  refine hr_getI hC hiX2_copyFrom_X2 rfl (kxH h1) 8 (by decide) hmX2_copyFrom_38 rfl dX2_copyFrom_119 ?_
  refine hr_putI hC hiX2_copyFrom_X2 rfl (kxH h0) 8 (by decide) hmX2_copyFrom_38 tyX2_ok nmX2 rfl rfl rfl rfl dX2_copyFrom_122 ?_
  refine hr_aload_n hC dX2_copyFrom_125 rfl 1 rfl ?_
  refine hr_getR hC hiX2_copyFrom_X2 rfl (kxH h0) 9 (by decide) hmX2_copyFrom_44 rfl dX2_copyFrom_126 ?_
  refine hr_aload_n hC dX2_copyFrom_129 rfl 2 rfl ?_
  refine hr_getR hC hiX2_copyFrom_X2 rfl (kxH h1) 9 (by decide) hmX2_copyFrom_44 rfl dX2_copyFrom_130 ?_
  refine hr_callVv (As := [.ref (ad (c1 + 8))]) (k := (c0 + 8)) hC rfl (tX4_copyFrom (t1 := t1) (t2 := t2) hI n (c0 + 8) (hx_Yo h0) (c1 + 8) (hx_Yo h1) (wr (wr m85 c0 7 (rd m85 c1 7)) c0 8 (rd (wr m85 c0 7 (rd m85 c1 7)) c1 8))) (cwV 1 hC.1.2.2.2.2 gX2_copyFrom_X4_copyFrom rfl rfl rfl (by decide +kernel) ⟨Nat.le_of_ble_eq_true rfl, Nat.le_of_ble_eq_true rfl⟩) (kxY (hx_Yo h0)) rfl rfl rfl (Nat.le_of_ble_eq_true rfl) dX2_copyFrom_133 (fun m133 => ?_)
  refine hr_aload_n hC dX2_copyFrom_136 rfl 1 rfl ?_
  refine hr_aload_n hC dX2_copyFrom_137 rfl 2 rfl ?_
  refine hr_getI hC hiX2_copyFrom_X2 rfl (kxH h1) 10 (by decide) hmX2_copyFrom_48 rfl dX2_copyFrom_138 ?_
  refine hr_putI hC hiX2_copyFrom_X2 rfl (kxH h0) 10 (by decide) hmX2_copyFrom_48 tyX2_ok nmX2 rfl rfl rfl rfl dX2_copyFrom_141 ?_
  refine hr_iconst (v := 0) hC dX2_copyFrom_144 (by decide) ?_
  refine hr_istore_n (lv' := [(2, .int (0 : Int32)), (0, .ref (ad c0)), (1, .ref (ad c1))]) hC dX2_copyFrom_145 rfl (by decide) rfl ?_
  refine hr_sub (lv' := [(2, .int (0 : Int32)), (0, .ref (ad c0)), (1, .ref (ad c1))]) [0, 1, 2] rfl ?_
  refine L146 _ (fun x2_146 m146 => ?_) _ _ _
  exact hr_vret hC hr dX2_copyFrom_172
theorem hmX1_remember_11 : Cond.fieldLink RX1 11 "HeatBills$History" "states" "[LHeatBills$House;" ∈ wsX1_remember := List.mem_of_getElem? (i := 1) rfl
theorem hmX1_remember_18 : Cond.fieldLink RX1 18 "HeatBills$History" "oldest" "I" ∈ wsX1_remember := List.mem_of_getElem? (i := 2) rfl
theorem hmX1_remember_22 : Cond.fieldLink RX1 22 "HeatBills$History" "size" "I" ∈ wsX1_remember := List.mem_of_getElem? (i := 3) rfl
theorem hiX1_remember_X1 : ∀ w ∈ wsX10, w ∈ wsX1_remember := fun _ h => List.mem_cons_of_mem _ (List.mem_append_left _ (List.mem_append_left _ (List.mem_append_right _ h)))
def fX1_remember (n : Nat) (c1 : Nat) (μ : hb_m) : Option (hb_m) :=
if ib (((rd μ 229 1) + (rd μ 229 2)) - ((rd μ 229 1) + (rd μ 229 2)) / (4 : Int32) * (4 : Int32)) 4 then
bv (fX2_copyFrom n (76 + 38 * (((rd μ 229 1) + (rd μ 229 2)) - ((rd μ 229 1) + (rd μ 229 2)) / (4 : Int32) * (4 : Int32)).toNatClampNeg) c1 μ) (fun m17 =>
if (4 : Int32) ≤ (rd m17 229 2) then
(some (wr m17 229 1 (((rd m17 229 1) + (1 : Int32)) - ((rd m17 229 1) + (1 : Int32)) / (4 : Int32) * (4 : Int32))))
else
(some (wr m17 229 2 ((rd m17 229 2) + (1 : Int32)))))
else none
abbrev rmX1_remember : Room := { frames := 3, cells := 0, slots := 0, locals := 73 }
set_option maxRecDepth 100000 in
set_option maxHeartbeats 4000000 in
theorem tX1_remember {l : Launch} {D : va_G} {ad : Nat → Nat} {dA : Nat → ClassId} {t1 t2 : Nat} (hI : hb_I 241 ad) (n : Nat) (c1 : Nat) (h1 : hx_H c1) (μ : hb_m) : hb_M (hb_Qv vwCl kdX 241 ad D dA) l yX1_remember wsX1_remember rmX1_remember vwCl kdX 241 ad D dA (tbX t1 t2) nwX [.ref (ad 229), .ref (ad c1)] μ (fX1_remember n c1 μ) := by
  refine hb_start (cc := cX1_remember) (maxL := 2) (ret := none) (by decide) rfl hI (Nat.le_of_ble_eq_true rfl) [(0, .ref (ad 229)), (1, .ref (ad c1))] rfl ?_
  intro p e s m args below meth c hC hr
  rw [fX1_remember]
  refine hr_aload_n hC dX1_remember_0 rfl 0 rfl ?_
  refine hr_getR hC hiX1_remember_X1 rfl kx229 0 (by decide) hmX1_remember_11 rfl dX1_remember_1 ?_
  refine hr_aload_n hC dX1_remember_4 rfl 0 rfl ?_
  refine hr_getI hC hiX1_remember_X1 rfl kx229 1 (by decide) hmX1_remember_18 rfl dX1_remember_5 ?_
  refine hr_aload_n hC dX1_remember_8 rfl 0 rfl ?_
  refine hr_getI hC hiX1_remember_X1 rfl kx229 2 (by decide) hmX1_remember_22 rfl dX1_remember_9 ?_
  refine hr_iadd hC dX1_remember_12 ?_
  refine hr_iconst (v := 4) hC dX1_remember_13 (by decide) ?_
  refine hr_irem hC dX1_remember_14 (by decide) ?_
  refine hr_aald hC (fun j => 76 + 38 * j) 4 kx230 rfl kx230c dX1_remember_15 (fun hlt15 => ?_)
  refine hr_aload_n hC dX1_remember_16 rfl 1 rfl ?_
  refine hr_callVv (As := [.ref (ad c1)]) (k := (76 + 38 * (((rd μ 229 1) + (rd μ 229 2)) - ((rd μ 229 1) + (rd μ 229 2)) / (4 : Int32) * (4 : Int32)).toNatClampNeg)) hC rfl (tX2_copyFrom (t1 := t1) (t2 := t2) hI n (76 + 38 * (((rd μ 229 1) + (rd μ 229 2)) - ((rd μ 229 1) + (rd μ 229 2)) / (4 : Int32) * (4 : Int32)).toNatClampNeg) (hx_Hs hlt15) c1 h1 μ) (cwV 1 hC.1.2.2.2.2 gX1_remember_X2_copyFrom rfl rfl rfl (by decide +kernel) ⟨Nat.le_of_ble_eq_true rfl, Nat.le_of_ble_eq_true rfl⟩) (kxH (hx_Hs hlt15)) rfl rfl rfl (Nat.le_of_ble_eq_true rfl) dX1_remember_17 (fun m17 => ?_)
  refine hr_aload_n hC dX1_remember_20 rfl 0 rfl ?_
  refine hr_getI hC hiX1_remember_X1 rfl kx229 2 (by decide) hmX1_remember_22 rfl dX1_remember_21 ?_
  refine hr_iconst (v := 4) hC dX1_remember_24 (by decide) ?_
  refine hr_icmp_ge (tgt := 41) hC dX1_remember_25 (by decide) (fun _ => ?_) (fun _ => ?_)
  · refine hr_aload_n hC dX1_remember_41 rfl 0 rfl ?_
    refine hr_aload_n hC dX1_remember_42 rfl 0 rfl ?_
    refine hr_getI hC hiX1_remember_X1 rfl kx229 1 (by decide) hmX1_remember_18 rfl dX1_remember_43 ?_
    refine hr_iconst (v := 1) hC dX1_remember_46 (by decide) ?_
    refine hr_iadd hC dX1_remember_47 ?_
    refine hr_iconst (v := 4) hC dX1_remember_48 (by decide) ?_
    refine hr_irem hC dX1_remember_49 (by decide) ?_
    refine hr_putI hC hiX1_remember_X1 rfl kx229 1 (by decide) hmX1_remember_18 tyX1_ok nmX1 rfl rfl rfl rfl dX1_remember_50 ?_
    exact hr_vret hC hr dX1_remember_53
  · refine hr_aload_n hC dX1_remember_28 rfl 0 rfl ?_
    refine hr_dup hC dX1_remember_29 rfl ?_
    refine hr_getI hC hiX1_remember_X1 rfl kx229 2 (by decide) hmX1_remember_22 rfl dX1_remember_30 ?_
    refine hr_iconst (v := 1) hC dX1_remember_33 (by decide) ?_
    refine hr_iadd hC dX1_remember_34 ?_
    refine hr_putI hC hiX1_remember_X1 rfl kx229 2 (by decide) hmX1_remember_22 tyX1_ok nmX1 rfl rfl rfl rfl dX1_remember_35 ?_
    refine hr_goto (tgt := 53) hC dX1_remember_38 (by decide) ?_
    exact hr_vret hC hr dX1_remember_53
theorem hmX5_addFlat_12 : Cond.fieldLink RX5 12 "HeatBills" "now" "LHeatBills$House;" ∈ wsX5_addFlat := List.mem_of_getElem? (i := 1) rfl
theorem hmX5_addFlat_44 : Cond.fieldLink RX5 44 "HeatBills$House" "flatCount" "I" ∈ wsX5_addFlat := List.mem_of_getElem? (i := 2) rfl
theorem hmX5_addFlat_48 : Cond.fieldLink RX5 48 "HeatBills$House" "closedCount" "I" ∈ wsX5_addFlat := List.mem_of_getElem? (i := 3) rfl
theorem hmX5_addFlat_26 : Cond.fieldLink RX5 26 "HeatBills" "history" "LHeatBills$History;" ∈ wsX5_addFlat := List.mem_of_getElem? (i := 4) rfl
theorem hmX5_addFlat_55 : Cond.fieldLink RX5 55 "HeatBills$House" "areas" "[I" ∈ wsX5_addFlat := List.mem_of_getElem? (i := 5) rfl
theorem hiX5_addFlat_X5 : ∀ w ∈ wsX50, w ∈ wsX5_addFlat := fun _ h => List.mem_cons_of_mem _ (List.mem_append_left _ (List.mem_append_left _ (List.mem_append_left _ (List.mem_append_right _ h))))
theorem hiX5_addFlat_X2 : ∀ w ∈ wsX20, w ∈ wsX5_addFlat := fun _ h => List.mem_cons_of_mem _ (List.mem_append_left _ (List.mem_append_left _ (List.mem_append_right _ h)))
def fX5_addFlat (n : Nat) (p1 : Int32) (μ : hb_m) : Option (Int32 × hb_m) :=
if p1 < (1 : Int32) then
(some ((-2 : Int32), μ))
else
(if p1 ≤ (200 : Int32) then
(if (rd μ 0 0) < (8 : Int32) then
(if (rd μ 0 10) ≤ 0 then
(bv (fX1_remember n 0 μ) (fun m51 =>
if ib (rd m51 0 0) 8 then
some ((rd m51 0 0), (wr (wr m51 (0 + 1) (rd m51 0 0).toNatClampNeg p1) 0 0 ((rd m51 0 0) + (1 : Int32))))
else none))
else
(some ((-4 : Int32), μ)))
else
(some ((-3 : Int32), μ)))
else
(some ((-2 : Int32), μ)))
abbrev rmX5_addFlat : Room := { frames := 4, cells := 0, slots := 0, locals := 94 }
set_option maxRecDepth 100000 in
set_option maxHeartbeats 4000000 in
theorem tX5_addFlat {l : Launch} {D : va_G} {ad : Nat → Nat} {dA : Nat → ClassId} {t1 t2 : Nat} (hI : hb_I 241 ad) (n : Nat) (p1 : Int32) (μ : hb_m) : hb_M (hb_Qi vwCl kdX 241 ad D dA) l yX5_addFlat wsX5_addFlat rmX5_addFlat vwCl kdX 241 ad D dA (tbX t1 t2) nwX [.ref (ad 228), .int p1] μ (fX5_addFlat n p1 μ) := by
  refine hb_start (cc := cX5_addFlat) (maxL := 3) (ret := (some .int)) (by decide) rfl hI (Nat.le_of_ble_eq_true rfl) [(0, .ref (ad 228)), (1, .int p1)] rfl ?_
  intro p e s m args below meth c hC hr
  rw [fX5_addFlat]
  refine hr_iload_n hC dX5_addFlat_0 rfl 1 rfl ?_
  refine hr_iconst (v := 1) hC dX5_addFlat_1 (by decide) ?_
  refine hr_icmp_lt (tgt := 12) hC dX5_addFlat_2 (by decide) (fun _ => ?_) (fun _ => ?_)
  · refine hr_bipush (v := -2) hC dX5_addFlat_12 (by decide) ?_
    exact hr_ireti hC hr dX5_addFlat_14
  · refine hr_iload_n hC dX5_addFlat_5 rfl 1 rfl ?_
    refine hr_sipush (v := 200) hC dX5_addFlat_6 (by decide) ?_
    refine hr_icmp_le (tgt := 15) hC dX5_addFlat_9 (by decide) (fun _ => ?_) (fun _ => ?_)
    · refine hr_aload_n hC dX5_addFlat_15 rfl 0 rfl ?_
      refine hr_getR hC hiX5_addFlat_X5 rfl kx228 0 (by decide) hmX5_addFlat_12 rfl dX5_addFlat_16 ?_
      refine hr_getI hC hiX5_addFlat_X2 rfl (kxH hx_H0) 0 (by decide) hmX5_addFlat_44 rfl dX5_addFlat_19 ?_
      refine hr_bipush (v := 8) hC dX5_addFlat_22 (by decide) ?_
      refine hr_icmp_lt (tgt := 30) hC dX5_addFlat_24 (by decide) (fun _ => ?_) (fun _ => ?_)
      · refine hr_aload_n hC dX5_addFlat_30 rfl 0 rfl ?_
        refine hr_getR hC hiX5_addFlat_X5 rfl kx228 0 (by decide) hmX5_addFlat_12 rfl dX5_addFlat_31 ?_
        refine hr_getI hC hiX5_addFlat_X2 rfl (kxH hx_H0) 10 (by decide) hmX5_addFlat_48 rfl dX5_addFlat_34 ?_
        refine hr_if_le (tgt := 43) hC dX5_addFlat_37 (by decide) (fun _ => ?_) (fun _ => ?_)
        · refine hr_aload_n hC dX5_addFlat_43 rfl 0 rfl ?_
          refine hr_getR hC hiX5_addFlat_X5 rfl kx228 3 (by decide) hmX5_addFlat_26 rfl dX5_addFlat_44 ?_
          refine hr_aload_n hC dX5_addFlat_47 rfl 0 rfl ?_
          refine hr_getR hC hiX5_addFlat_X5 rfl kx228 0 (by decide) hmX5_addFlat_12 rfl dX5_addFlat_48 ?_
          refine hr_callVv (As := [.ref (ad 0)]) (k := 229) hC rfl (tX1_remember (t1 := t1) (t2 := t2) hI n 0 hx_H0 μ) (cwV 1 hC.1.2.2.2.2 gX5_addFlat_X1_remember rfl rfl rfl (by decide +kernel) ⟨Nat.le_of_ble_eq_true rfl, Nat.le_of_ble_eq_true rfl⟩) kx229 rfl rfl rfl (Nat.le_of_ble_eq_true rfl) dX5_addFlat_51 (fun m51 => ?_)
          refine hr_aload_n hC dX5_addFlat_54 rfl 0 rfl ?_
          refine hr_getR hC hiX5_addFlat_X5 rfl kx228 0 (by decide) hmX5_addFlat_12 rfl dX5_addFlat_55 ?_
          refine hr_getI hC hiX5_addFlat_X2 rfl (kxH hx_H0) 0 (by decide) hmX5_addFlat_44 rfl dX5_addFlat_58 ?_
          refine hr_istore_n (lv' := [(2, .int (rd m51 0 0)), (0, .ref (ad 228)), (1, .int p1)]) hC dX5_addFlat_61 rfl (by decide) rfl ?_
          refine hr_aload_n hC dX5_addFlat_62 rfl 1 rfl ?_
          refine hr_getR hC hiX5_addFlat_X5 rfl kx228 0 (by decide) hmX5_addFlat_12 rfl dX5_addFlat_63 ?_
          refine hr_getR hC hiX5_addFlat_X2 rfl (kxH hx_H0) 1 (by decide) hmX5_addFlat_55 rfl dX5_addFlat_66 ?_
          refine hr_iload_n hC dX5_addFlat_69 rfl 0 rfl ?_
          refine hr_iload_n hC dX5_addFlat_70 rfl 2 rfl ?_
          refine hr_iast hC (kxH1 hx_H0) dX5_addFlat_71 ?_
          refine hr_aload_n hC dX5_addFlat_72 rfl 1 rfl ?_
          refine hr_getR hC hiX5_addFlat_X5 rfl kx228 0 (by decide) hmX5_addFlat_12 rfl dX5_addFlat_73 ?_
          refine hr_iload_n hC dX5_addFlat_76 rfl 0 rfl ?_
          refine hr_iconst (v := 1) hC dX5_addFlat_77 (by decide) ?_
          refine hr_iadd hC dX5_addFlat_78 ?_
          refine hr_putI hC hiX5_addFlat_X2 rfl (kxH hx_H0) 0 (by decide) hmX5_addFlat_44 tyX2_ok nmX2 rfl rfl rfl rfl dX5_addFlat_79 ?_
          refine hr_iload_n hC dX5_addFlat_82 rfl 0 rfl ?_
          exact hr_ireti hC hr dX5_addFlat_83
        · refine hr_bipush (v := -4) hC dX5_addFlat_40 (by decide) ?_
          exact hr_ireti hC hr dX5_addFlat_42
      · refine hr_bipush (v := -3) hC dX5_addFlat_27 (by decide) ?_
        exact hr_ireti hC hr dX5_addFlat_29
    · refine hr_bipush (v := -2) hC dX5_addFlat_12 (by decide) ?_
      exact hr_ireti hC hr dX5_addFlat_14
theorem hmX2_hasFlat_9 : Cond.fieldLink RX2 9 "HeatBills$House" "flatCount" "I" ∈ wsX2_hasFlat := List.mem_of_getElem? (i := 1) rfl
theorem hiX2_hasFlat_X2 : ∀ w ∈ wsX20, w ∈ wsX2_hasFlat := fun _ h => List.mem_cons_of_mem _ (List.mem_append_right _ h)
def fX2_hasFlat (n : Nat) (c0 : Nat) (p1 : Int32) (μ : hb_m) : Option (Int32 × hb_m) :=
if p1 < 0 then
(some ((0 : Int32), μ))
else
(if (rd μ c0 0) ≤ p1 then
(some ((0 : Int32), μ))
else
(some ((1 : Int32), μ)))
abbrev rmX2_hasFlat : Room := { frames := 0, cells := 0, slots := 0, locals := 0 }
set_option maxRecDepth 100000 in
set_option maxHeartbeats 4000000 in
theorem tX2_hasFlat {l : Launch} {D : va_G} {ad : Nat → Nat} {dA : Nat → ClassId} {t1 t2 : Nat} (hI : hb_I 241 ad) (n : Nat) (c0 : Nat) (h0 : hx_H c0) (p1 : Int32) (μ : hb_m) : hb_M (hb_Qi vwCl kdX 241 ad D dA) l yX2_hasFlat wsX2_hasFlat rmX2_hasFlat vwCl kdX 241 ad D dA (tbX t1 t2) nwX [.ref (ad c0), .int p1] μ (fX2_hasFlat n c0 p1 μ) := by
  refine hb_start (cc := cX2_hasFlat) (maxL := 2) (ret := (some .boolean)) (by decide) rfl hI (Nat.le_of_ble_eq_true rfl) [(0, .ref (ad c0)), (1, .int p1)] rfl ?_
  intro p e s m args below meth c hC hr
  rw [fX2_hasFlat]
  refine hr_iload_n hC dX2_hasFlat_0 rfl 1 rfl ?_
  refine hr_if_lt (tgt := 16) hC dX2_hasFlat_1 (by decide) (fun _ => ?_) (fun _ => ?_)
  · refine hr_iconst (v := 0) hC dX2_hasFlat_16 (by decide) ?_
    exact hr_iretz hC hr dX2_hasFlat_17 rfl
  · refine hr_iload_n hC dX2_hasFlat_4 rfl 1 rfl ?_
    refine hr_aload_n hC dX2_hasFlat_5 rfl 0 rfl ?_
    refine hr_getI hC hiX2_hasFlat_X2 rfl (kxH h0) 0 (by decide) hmX2_hasFlat_9 rfl dX2_hasFlat_6 ?_
    refine hr_icmp_ge (tgt := 16) hC dX2_hasFlat_9 (by decide) (fun _ => ?_) (fun _ => ?_)
    · refine hr_iconst (v := 0) hC dX2_hasFlat_16 (by decide) ?_
      exact hr_iretz hC hr dX2_hasFlat_17 rfl
    · refine hr_iconst (v := 1) hC dX2_hasFlat_12 (by decide) ?_
      refine hr_goto (tgt := 17) hC dX2_hasFlat_13 (by decide) ?_
      exact hr_iretz hC hr dX2_hasFlat_17 rfl
theorem hmX5_addDevice_12 : Cond.fieldLink RX5 12 "HeatBills" "now" "LHeatBills$House;" ∈ wsX5_addDevice := List.mem_of_getElem? (i := 1) rfl
theorem hmX5_addDevice_63 : Cond.fieldLink RX5 63 "HeatBills$House" "openYear" "LHeatBills$Year;" ∈ wsX5_addDevice := List.mem_of_getElem? (i := 2) rfl
theorem hmX5_addDevice_67 : Cond.fieldLink RX5 67 "HeatBills$Year" "deviceCount" "I" ∈ wsX5_addDevice := List.mem_of_getElem? (i := 3) rfl
theorem hmX5_addDevice_26 : Cond.fieldLink RX5 26 "HeatBills" "history" "LHeatBills$History;" ∈ wsX5_addDevice := List.mem_of_getElem? (i := 4) rfl
theorem hmX5_addDevice_72 : Cond.fieldLink RX5 72 "HeatBills$House" "deviceFlats" "[I" ∈ wsX5_addDevice := List.mem_of_getElem? (i := 5) rfl
theorem hmX5_addDevice_75 : Cond.fieldLink RX5 75 "HeatBills$House" "factors" "[I" ∈ wsX5_addDevice := List.mem_of_getElem? (i := 6) rfl
theorem hiX5_addDevice_X5 : ∀ w ∈ wsX50, w ∈ wsX5_addDevice := fun _ h => List.mem_cons_of_mem _ (List.mem_append_left _ (List.mem_append_left _ (List.mem_append_left _ (List.mem_append_right _ h))))
theorem hiX5_addDevice_X2 : ∀ w ∈ wsX20, w ∈ wsX5_addDevice := fun _ h => List.mem_cons_of_mem _ (List.mem_append_left _ (List.mem_append_left _ (List.mem_append_right _ h)))
theorem hiX5_addDevice_X4 : ∀ w ∈ wsX40, w ∈ wsX5_addDevice := fun _ h => List.mem_cons_of_mem _ (List.mem_append_left _ (List.mem_append_right _ h))
def fX5_addDevice (n : Nat) (p1 : Int32) (p2 : Int32) (μ : hb_m) : Option (Int32 × hb_m) :=
bi (fX2_hasFlat n 0 p1 μ) (fun r5 m5 =>
if r5 = 0 then
(some ((-1 : Int32), m5))
else
(if p2 < (1 : Int32) then
(some ((-2 : Int32), m5))
else
(if p2 ≤ (20 : Int32) then
(if (rd m5 (0 + 8) 2) < (20 : Int32) then
(bv (fX1_remember n 0 m5) (fun m53 =>
if ib (rd m53 (0 + 8) 2) 20 then
if ib (rd m53 (0 + 8) 2) 20 then
some ((rd m53 (0 + 8) 2), (wr (wr (wr m53 (0 + 2) (rd m53 (0 + 8) 2).toNatClampNeg p1) (0 + 3) (rd m53 (0 + 8) 2).toNatClampNeg p2) (0 + 8) 2 ((rd m53 (0 + 8) 2) + (1 : Int32))))
else none
else none))
else
(some ((-3 : Int32), m5)))
else
(some ((-2 : Int32), m5)))))
abbrev rmX5_addDevice : Room := { frames := 4, cells := 0, slots := 0, locals := 94 }
set_option maxRecDepth 100000 in
set_option maxHeartbeats 4000000 in
theorem tX5_addDevice {l : Launch} {D : va_G} {ad : Nat → Nat} {dA : Nat → ClassId} {t1 t2 : Nat} (hI : hb_I 241 ad) (n : Nat) (p1 : Int32) (p2 : Int32) (μ : hb_m) : hb_M (hb_Qi vwCl kdX 241 ad D dA) l yX5_addDevice wsX5_addDevice rmX5_addDevice vwCl kdX 241 ad D dA (tbX t1 t2) nwX [.ref (ad 228), .int p1, .int p2] μ (fX5_addDevice n p1 p2 μ) := by
  refine hb_start (cc := cX5_addDevice) (maxL := 4) (ret := (some .int)) (by decide) rfl hI (Nat.le_of_ble_eq_true rfl) [(0, .ref (ad 228)), (1, .int p1), (2, .int p2)] rfl ?_
  intro p e s m args below meth c hC hr
  rw [fX5_addDevice]
  refine hr_aload_n hC dX5_addDevice_0 rfl 0 rfl ?_
  refine hr_getR hC hiX5_addDevice_X5 rfl kx228 0 (by decide) hmX5_addDevice_12 rfl dX5_addDevice_1 ?_
  refine hr_iload_n hC dX5_addDevice_4 rfl 1 rfl ?_
  refine hr_callVi (As := [.int p1]) (k := 0) hC rfl (tX2_hasFlat (t1 := t1) (t2 := t2) hI n 0 hx_H0 p1 μ) (cwV 1 hC.1.2.2.2.2 gX5_addDevice_X2_hasFlat rfl rfl rfl (by decide +kernel) ⟨Nat.le_of_ble_eq_true rfl, Nat.le_of_ble_eq_true rfl⟩) (kxH hx_H0) rfl rfl rfl (Nat.le_of_ble_eq_true rfl) dX5_addDevice_5 (fun r5 m5 => ?_)
  refine hr_if_ne (tgt := 13) hC dX5_addDevice_8 (by decide) (fun _ => ?_) (fun _ => ?_)
  · refine hr_iconst (v := -1) hC dX5_addDevice_11 (by decide) ?_
    exact hr_ireti hC hr dX5_addDevice_12
  · refine hr_iload_n hC dX5_addDevice_13 rfl 2 rfl ?_
    refine hr_iconst (v := 1) hC dX5_addDevice_14 (by decide) ?_
    refine hr_icmp_lt (tgt := 24) hC dX5_addDevice_15 (by decide) (fun _ => ?_) (fun _ => ?_)
    · refine hr_bipush (v := -2) hC dX5_addDevice_24 (by decide) ?_
      exact hr_ireti hC hr dX5_addDevice_26
    · refine hr_iload_n hC dX5_addDevice_18 rfl 2 rfl ?_
      refine hr_bipush (v := 20) hC dX5_addDevice_19 (by decide) ?_
      refine hr_icmp_le (tgt := 27) hC dX5_addDevice_21 (by decide) (fun _ => ?_) (fun _ => ?_)
      · refine hr_aload_n hC dX5_addDevice_27 rfl 0 rfl ?_
        refine hr_getR hC hiX5_addDevice_X5 rfl kx228 0 (by decide) hmX5_addDevice_12 rfl dX5_addDevice_28 ?_
        refine hr_getR hC hiX5_addDevice_X2 rfl (kxH hx_H0) 9 (by decide) hmX5_addDevice_63 rfl dX5_addDevice_31 ?_
        refine hr_getI hC hiX5_addDevice_X4 rfl (kxY (hx_Yo hx_H0)) 2 (by decide) hmX5_addDevice_67 rfl dX5_addDevice_34 ?_
        refine hr_bipush (v := 20) hC dX5_addDevice_37 (by decide) ?_
        refine hr_icmp_lt (tgt := 45) hC dX5_addDevice_39 (by decide) (fun _ => ?_) (fun _ => ?_)
        · refine hr_aload_n hC dX5_addDevice_45 rfl 0 rfl ?_
          refine hr_getR hC hiX5_addDevice_X5 rfl kx228 3 (by decide) hmX5_addDevice_26 rfl dX5_addDevice_46 ?_
          refine hr_aload_n hC dX5_addDevice_49 rfl 0 rfl ?_
          refine hr_getR hC hiX5_addDevice_X5 rfl kx228 0 (by decide) hmX5_addDevice_12 rfl dX5_addDevice_50 ?_
          refine hr_callVv (As := [.ref (ad 0)]) (k := 229) hC rfl (tX1_remember (t1 := t1) (t2 := t2) hI n 0 hx_H0 m5) (cwV 1 hC.1.2.2.2.2 gX5_addDevice_X1_remember rfl rfl rfl (by decide +kernel) ⟨Nat.le_of_ble_eq_true rfl, Nat.le_of_ble_eq_true rfl⟩) kx229 rfl rfl rfl (Nat.le_of_ble_eq_true rfl) dX5_addDevice_53 (fun m53 => ?_)
          refine hr_aload_n hC dX5_addDevice_56 rfl 0 rfl ?_
          refine hr_getR hC hiX5_addDevice_X5 rfl kx228 0 (by decide) hmX5_addDevice_12 rfl dX5_addDevice_57 ?_
          refine hr_getR hC hiX5_addDevice_X2 rfl (kxH hx_H0) 9 (by decide) hmX5_addDevice_63 rfl dX5_addDevice_60 ?_
          refine hr_getI hC hiX5_addDevice_X4 rfl (kxY (hx_Yo hx_H0)) 2 (by decide) hmX5_addDevice_67 rfl dX5_addDevice_63 ?_
          refine hr_istore_n (lv' := [(3, .int (rd m53 (0 + 8) 2)), (0, .ref (ad 228)), (1, .int p1), (2, .int p2)]) hC dX5_addDevice_66 rfl (by decide) rfl ?_
          refine hr_aload_n hC dX5_addDevice_67 rfl 1 rfl ?_
          refine hr_getR hC hiX5_addDevice_X5 rfl kx228 0 (by decide) hmX5_addDevice_12 rfl dX5_addDevice_68 ?_
          refine hr_getR hC hiX5_addDevice_X2 rfl (kxH hx_H0) 2 (by decide) hmX5_addDevice_72 rfl dX5_addDevice_71 ?_
          refine hr_iload_n hC dX5_addDevice_74 rfl 0 rfl ?_
          refine hr_iload_n hC dX5_addDevice_75 rfl 2 rfl ?_
          refine hr_iast hC (kxH2 hx_H0) dX5_addDevice_76 ?_
          refine hr_aload_n hC dX5_addDevice_77 rfl 1 rfl ?_
          refine hr_getR hC hiX5_addDevice_X5 rfl kx228 0 (by decide) hmX5_addDevice_12 rfl dX5_addDevice_78 ?_
          refine hr_getR hC hiX5_addDevice_X2 rfl (kxH hx_H0) 3 (by decide) hmX5_addDevice_75 rfl dX5_addDevice_81 ?_
          refine hr_iload_n hC dX5_addDevice_84 rfl 0 rfl ?_
          refine hr_iload_n hC dX5_addDevice_85 rfl 3 rfl ?_
          refine hr_iast hC (kxH3 hx_H0) dX5_addDevice_86 ?_
          refine hr_aload_n hC dX5_addDevice_87 rfl 1 rfl ?_
          refine hr_getR hC hiX5_addDevice_X5 rfl kx228 0 (by decide) hmX5_addDevice_12 rfl dX5_addDevice_88 ?_
          refine hr_getR hC hiX5_addDevice_X2 rfl (kxH hx_H0) 9 (by decide) hmX5_addDevice_63 rfl dX5_addDevice_91 ?_
          refine hr_iload_n hC dX5_addDevice_94 rfl 0 rfl ?_
          refine hr_iconst (v := 1) hC dX5_addDevice_95 (by decide) ?_
          refine hr_iadd hC dX5_addDevice_96 ?_
          refine hr_putI hC hiX5_addDevice_X4 rfl (kxY (hx_Yo hx_H0)) 2 (by decide) hmX5_addDevice_67 tyX4_ok nmX4 rfl rfl rfl rfl dX5_addDevice_97 ?_
          refine hr_iload_n hC dX5_addDevice_100 rfl 0 rfl ?_
          exact hr_ireti hC hr dX5_addDevice_101
        · refine hr_bipush (v := -3) hC dX5_addDevice_42 (by decide) ?_
          exact hr_ireti hC hr dX5_addDevice_44
      · refine hr_bipush (v := -2) hC dX5_addDevice_24 (by decide) ?_
        exact hr_ireti hC hr dX5_addDevice_26
theorem hmX2_setting_44 : Cond.fieldLink RX2 44 "HeatBills$House" "openYear" "LHeatBills$Year;" ∈ wsX2_setting := List.mem_of_getElem? (i := 1) rfl
theorem hmX2_setting_65 : Cond.fieldLink RX2 65 "HeatBills$Year" "cost" "I" ∈ wsX2_setting := List.mem_of_getElem? (i := 2) rfl
theorem hmX2_setting_68 : Cond.fieldLink RX2 68 "HeatBills$Year" "baseShare" "I" ∈ wsX2_setting := List.mem_of_getElem? (i := 3) rfl
theorem hmX2_setting_35 : Cond.fieldLink RX2 35 "HeatBills$House" "manner" "I" ∈ wsX2_setting := List.mem_of_getElem? (i := 4) rfl
theorem hiX2_setting_X2 : ∀ w ∈ wsX20, w ∈ wsX2_setting := fun _ h => List.mem_cons_of_mem _ (List.mem_append_left _ (List.mem_append_right _ h))
theorem hiX2_setting_X4 : ∀ w ∈ wsX40, w ∈ wsX2_setting := fun _ h => List.mem_cons_of_mem _ (List.mem_append_right _ h)
def fX2_setting (n : Nat) (c0 : Nat) (p1 : Int32) (μ : hb_m) : Option (Int32 × hb_m) :=
if p1 = 0 then
(some ((rd μ (c0 + 8) 0), μ))
else
(if p1 = (1 : Int32) then
(some ((rd μ (c0 + 8) 1), μ))
else
(some ((rd μ c0 7), μ)))
abbrev rmX2_setting : Room := { frames := 0, cells := 0, slots := 0, locals := 0 }
set_option maxRecDepth 100000 in
set_option maxHeartbeats 4000000 in
theorem tX2_setting {l : Launch} {D : va_G} {ad : Nat → Nat} {dA : Nat → ClassId} {t1 t2 : Nat} (hI : hb_I 241 ad) (n : Nat) (c0 : Nat) (h0 : hx_H c0) (p1 : Int32) (μ : hb_m) : hb_M (hb_Qi vwCl kdX 241 ad D dA) l yX2_setting wsX2_setting rmX2_setting vwCl kdX 241 ad D dA (tbX t1 t2) nwX [.ref (ad c0), .int p1] μ (fX2_setting n c0 p1 μ) := by
  refine hb_start (cc := cX2_setting) (maxL := 2) (ret := (some .int)) (by decide) rfl hI (Nat.le_of_ble_eq_true rfl) [(0, .ref (ad c0)), (1, .int p1)] rfl ?_
  intro p e s m args below meth c hC hr
  rw [fX2_setting]
  refine hr_iload_n hC dX2_setting_0 rfl 1 rfl ?_
  refine hr_if_ne (tgt := 12) hC dX2_setting_1 (by decide) (fun _ => ?_) (fun _ => ?_)
  · refine hr_aload_n hC dX2_setting_4 rfl 0 rfl ?_
    refine hr_getR hC hiX2_setting_X2 rfl (kxH h0) 9 (by decide) hmX2_setting_44 rfl dX2_setting_5 ?_
    refine hr_getI hC hiX2_setting_X4 rfl (kxY (hx_Yo h0)) 0 (by decide) hmX2_setting_65 rfl dX2_setting_8 ?_
    exact hr_ireti hC hr dX2_setting_11
  · refine hr_iload_n hC dX2_setting_12 rfl 1 rfl ?_
    refine hr_iconst (v := 1) hC dX2_setting_13 (by decide) ?_
    refine hr_icmp_ne (tgt := 27) hC dX2_setting_14 (by decide) (fun _ => ?_) (fun _ => ?_)
    · refine hr_aload_n hC dX2_setting_17 rfl 0 rfl ?_
      refine hr_getR hC hiX2_setting_X2 rfl (kxH h0) 9 (by decide) hmX2_setting_44 rfl dX2_setting_18 ?_
      refine hr_getI hC hiX2_setting_X4 rfl (kxY (hx_Yo h0)) 1 (by decide) hmX2_setting_68 rfl dX2_setting_21 ?_
      refine hr_goto (tgt := 31) hC dX2_setting_24 (by decide) ?_
      exact hr_ireti hC hr dX2_setting_31
    · refine hr_aload_n hC dX2_setting_27 rfl 0 rfl ?_
      refine hr_getI hC hiX2_setting_X2 rfl (kxH h0) 7 (by decide) hmX2_setting_35 rfl dX2_setting_28 ?_
      exact hr_ireti hC hr dX2_setting_31
theorem hmX2_putSetting_44 : Cond.fieldLink RX2 44 "HeatBills$House" "openYear" "LHeatBills$Year;" ∈ wsX2_putSetting := List.mem_of_getElem? (i := 1) rfl
theorem hmX2_putSetting_65 : Cond.fieldLink RX2 65 "HeatBills$Year" "cost" "I" ∈ wsX2_putSetting := List.mem_of_getElem? (i := 2) rfl
theorem hmX2_putSetting_68 : Cond.fieldLink RX2 68 "HeatBills$Year" "baseShare" "I" ∈ wsX2_putSetting := List.mem_of_getElem? (i := 3) rfl
theorem hmX2_putSetting_35 : Cond.fieldLink RX2 35 "HeatBills$House" "manner" "I" ∈ wsX2_putSetting := List.mem_of_getElem? (i := 4) rfl
theorem hiX2_putSetting_X2 : ∀ w ∈ wsX20, w ∈ wsX2_putSetting := fun _ h => List.mem_cons_of_mem _ (List.mem_append_left _ (List.mem_append_right _ h))
theorem hiX2_putSetting_X4 : ∀ w ∈ wsX40, w ∈ wsX2_putSetting := fun _ h => List.mem_cons_of_mem _ (List.mem_append_right _ h)
def fX2_putSetting (n : Nat) (c0 : Nat) (p1 : Int32) (p2 : Int32) (μ : hb_m) : Option (hb_m) :=
if p1 = 0 then
(some (wr μ (c0 + 8) 0 p2))
else
(if p1 = (1 : Int32) then
(some (wr μ (c0 + 8) 1 p2))
else
(some (wr μ c0 7 p2)))
abbrev rmX2_putSetting : Room := { frames := 0, cells := 0, slots := 0, locals := 0 }
set_option maxRecDepth 100000 in
set_option maxHeartbeats 4000000 in
theorem tX2_putSetting {l : Launch} {D : va_G} {ad : Nat → Nat} {dA : Nat → ClassId} {t1 t2 : Nat} (hI : hb_I 241 ad) (n : Nat) (c0 : Nat) (h0 : hx_H c0) (p1 : Int32) (p2 : Int32) (μ : hb_m) : hb_M (hb_Qv vwCl kdX 241 ad D dA) l yX2_putSetting wsX2_putSetting rmX2_putSetting vwCl kdX 241 ad D dA (tbX t1 t2) nwX [.ref (ad c0), .int p1, .int p2] μ (fX2_putSetting n c0 p1 p2 μ) := by
  refine hb_start (cc := cX2_putSetting) (maxL := 3) (ret := none) (by decide) rfl hI (Nat.le_of_ble_eq_true rfl) [(0, .ref (ad c0)), (1, .int p1), (2, .int p2)] rfl ?_
  intro p e s m args below meth c hC hr
  rw [fX2_putSetting]
  refine hr_iload_n hC dX2_putSetting_0 rfl 1 rfl ?_
  refine hr_if_ne (tgt := 15) hC dX2_putSetting_1 (by decide) (fun _ => ?_) (fun _ => ?_)
  · refine hr_aload_n hC dX2_putSetting_4 rfl 0 rfl ?_
    refine hr_getR hC hiX2_putSetting_X2 rfl (kxH h0) 9 (by decide) hmX2_putSetting_44 rfl dX2_putSetting_5 ?_
    refine hr_iload_n hC dX2_putSetting_8 rfl 2 rfl ?_
    refine hr_putI hC hiX2_putSetting_X4 rfl (kxY (hx_Yo h0)) 0 (by decide) hmX2_putSetting_65 tyX4_ok nmX4 rfl rfl rfl rfl dX2_putSetting_9 ?_
    refine hr_goto (tgt := 36) hC dX2_putSetting_12 (by decide) ?_
    exact hr_vret hC hr dX2_putSetting_36
  · refine hr_iload_n hC dX2_putSetting_15 rfl 1 rfl ?_
    refine hr_iconst (v := 1) hC dX2_putSetting_16 (by decide) ?_
    refine hr_icmp_ne (tgt := 31) hC dX2_putSetting_17 (by decide) (fun _ => ?_) (fun _ => ?_)
    · refine hr_aload_n hC dX2_putSetting_20 rfl 0 rfl ?_
      refine hr_getR hC hiX2_putSetting_X2 rfl (kxH h0) 9 (by decide) hmX2_putSetting_44 rfl dX2_putSetting_21 ?_
      refine hr_iload_n hC dX2_putSetting_24 rfl 2 rfl ?_
      refine hr_putI hC hiX2_putSetting_X4 rfl (kxY (hx_Yo h0)) 1 (by decide) hmX2_putSetting_68 tyX4_ok nmX4 rfl rfl rfl rfl dX2_putSetting_25 ?_
      refine hr_goto (tgt := 36) hC dX2_putSetting_28 (by decide) ?_
      exact hr_vret hC hr dX2_putSetting_36
    · refine hr_aload_n hC dX2_putSetting_31 rfl 0 rfl ?_
      refine hr_iload_n hC dX2_putSetting_32 rfl 2 rfl ?_
      refine hr_putI hC hiX2_putSetting_X2 rfl (kxH h0) 7 (by decide) hmX2_putSetting_35 tyX2_ok nmX2 rfl rfl rfl rfl dX2_putSetting_33 ?_
      exact hr_vret hC hr dX2_putSetting_36
theorem hmX5_set_78 : Cond.fieldLink RX5 78 "HeatBills" "SETTING_LIMITS" "[I" ∈ wsX5_set := List.mem_of_getElem? (i := 1) rfl
theorem hmX5_set_12 : Cond.fieldLink RX5 12 "HeatBills" "now" "LHeatBills$House;" ∈ wsX5_set := List.mem_of_getElem? (i := 2) rfl
theorem hmX5_set_26 : Cond.fieldLink RX5 26 "HeatBills" "history" "LHeatBills$History;" ∈ wsX5_set := List.mem_of_getElem? (i := 3) rfl
theorem hiX5_set_X5 : ∀ w ∈ wsX50, w ∈ wsX5_set := fun _ h => List.mem_cons_of_mem _ (List.mem_append_left _ (List.mem_append_left _ (List.mem_append_left _ (List.mem_append_right _ h))))
def fX5_set (n : Nat) (p1 : Int32) (p2 : Int32) (μ : hb_m) : Option (Int32 × hb_m) :=
if p1 < 0 then
(some ((-2 : Int32), μ))
else
(if p1 < (Int32.ofNat 3) then
(if p2 < 0 then
(some ((-2 : Int32), μ))
else
(if ib p1 3 then
if p2 ≤ (tbX1f p1.toNatClampNeg) then
(bi (fX2_setting n 0 p1 μ) (fun r36 m36 =>
if r36 = p2 then
(some ((-5 : Int32), m36))
else
(bv (fX1_remember n 0 m36) (fun m56 =>
bv (fX2_putSetting n 0 p1 p2 m56) (fun m65 =>
some (r36, m65))))))
else
(some ((-2 : Int32), μ))
else none))
else
(some ((-2 : Int32), μ)))
abbrev rmX5_set : Room := { frames := 4, cells := 0, slots := 0, locals := 94 }
set_option maxRecDepth 100000 in
set_option maxHeartbeats 4000000 in
theorem tX5_set {l : Launch} {D : va_G} {ad : Nat → Nat} {dA : Nat → ClassId} {t1 t2 : Nat} (hI : hb_I 241 ad) (n : Nat) (p1 : Int32) (p2 : Int32) (μ : hb_m) : hb_M (hb_Qi vwCl kdX 241 ad D dA) l yX5_set wsX5_set rmX5_set vwCl kdX 241 ad D dA (tbX t1 t2) nwX [.ref (ad 228), .int p1, .int p2] μ (fX5_set n p1 p2 μ) := by
  refine hb_start (cc := cX5_set) (maxL := 4) (ret := (some .int)) (by decide) rfl hI (Nat.le_of_ble_eq_true rfl) [(0, .ref (ad 228)), (1, .int p1), (2, .int p2)] rfl ?_
  intro p e s m args below meth c hC hr
  rw [fX5_set]
  refine hr_iload_n hC dX5_set_0 rfl 1 rfl ?_
  refine hr_if_lt (tgt := 12) hC dX5_set_1 (by decide) (fun _ => ?_) (fun _ => ?_)
  · refine hr_bipush (v := -2) hC dX5_set_12 (by decide) ?_
    exact hr_ireti hC hr dX5_set_14
  · refine hr_iload_n hC dX5_set_4 rfl 1 rfl ?_
    refine hr_gets (q := tbX1q t1) hC (tbX1m t1 t2) hmX5_set_78 dX5_set_5 ?_
    refine hr_tlen (q := tbX1q t1) hC (tbX1m t1 t2) rfl dX5_set_8 ?_
    refine hr_icmp_lt (tgt := 15) hC dX5_set_9 (by decide) (fun _ => ?_) (fun _ => ?_)
    · refine hr_iload_n hC dX5_set_15 rfl 2 rfl ?_
      refine hr_if_lt (tgt := 28) hC dX5_set_16 (by decide) (fun _ => ?_) (fun _ => ?_)
      · refine hr_bipush (v := -2) hC dX5_set_28 (by decide) ?_
        exact hr_ireti hC hr dX5_set_30
      · refine hr_iload_n hC dX5_set_19 rfl 2 rfl ?_
        refine hr_gets (q := tbX1q t1) hC (tbX1m t1 t2) hmX5_set_78 dX5_set_20 ?_
        refine hr_iload_n hC dX5_set_23 rfl 1 rfl ?_
        refine hr_tald (q := tbX1q t1) hC (tbX1m t1 t2) rfl dX5_set_24 ?_
        refine hr_icmp_le (tgt := 31) hC dX5_set_25 (by decide) (fun _ => ?_) (fun _ => ?_)
        · refine hr_aload_n hC dX5_set_31 rfl 0 rfl ?_
          refine hr_getR hC hiX5_set_X5 rfl kx228 0 (by decide) hmX5_set_12 rfl dX5_set_32 ?_
          refine hr_iload_n hC dX5_set_35 rfl 1 rfl ?_
          refine hr_callVi (As := [.int p1]) (k := 0) hC rfl (tX2_setting (t1 := t1) (t2 := t2) hI n 0 hx_H0 p1 μ) (cwV 1 hC.1.2.2.2.2 gX5_set_X2_setting rfl rfl rfl (by decide +kernel) ⟨Nat.le_of_ble_eq_true rfl, Nat.le_of_ble_eq_true rfl⟩) (kxH hx_H0) rfl rfl rfl (Nat.le_of_ble_eq_true rfl) dX5_set_36 (fun r36 m36 => ?_)
          refine hr_istore_n (lv' := [(3, .int r36), (0, .ref (ad 228)), (1, .int p1), (2, .int p2)]) hC dX5_set_39 rfl (by decide) rfl ?_
          refine hr_iload_n hC dX5_set_40 rfl 0 rfl ?_
          refine hr_iload_n hC dX5_set_41 rfl 3 rfl ?_
          refine hr_icmp_ne (tgt := 48) hC dX5_set_42 (by decide) (fun _ => ?_) (fun _ => ?_)
          · refine hr_bipush (v := -5) hC dX5_set_45 (by decide) ?_
            exact hr_ireti hC hr dX5_set_47
          · refine hr_aload_n hC dX5_set_48 rfl 1 rfl ?_
            refine hr_getR hC hiX5_set_X5 rfl kx228 3 (by decide) hmX5_set_26 rfl dX5_set_49 ?_
            refine hr_aload_n hC dX5_set_52 rfl 1 rfl ?_
            refine hr_getR hC hiX5_set_X5 rfl kx228 0 (by decide) hmX5_set_12 rfl dX5_set_53 ?_
            refine hr_callVv (As := [.ref (ad 0)]) (k := 229) hC rfl (tX1_remember (t1 := t1) (t2 := t2) hI n 0 hx_H0 m36) (cwV 1 hC.1.2.2.2.2 gX5_set_X1_remember rfl rfl rfl (by decide +kernel) ⟨Nat.le_of_ble_eq_true rfl, Nat.le_of_ble_eq_true rfl⟩) kx229 rfl rfl rfl (Nat.le_of_ble_eq_true rfl) dX5_set_56 (fun m56 => ?_)
            refine hr_aload_n hC dX5_set_59 rfl 1 rfl ?_
            refine hr_getR hC hiX5_set_X5 rfl kx228 0 (by decide) hmX5_set_12 rfl dX5_set_60 ?_
            refine hr_iload_n hC dX5_set_63 rfl 2 rfl ?_
            refine hr_iload_n hC dX5_set_64 rfl 3 rfl ?_
            refine hr_callVv (As := [.int p1, .int p2]) (k := 0) hC rfl (tX2_putSetting (t1 := t1) (t2 := t2) hI n 0 hx_H0 p1 p2 m56) (cwV 2 hC.1.2.2.2.2 gX5_set_X2_putSetting rfl rfl rfl (by decide +kernel) ⟨Nat.le_of_ble_eq_true rfl, Nat.le_of_ble_eq_true rfl⟩) (kxH hx_H0) rfl rfl rfl (Nat.le_of_ble_eq_true rfl) dX5_set_65 (fun m65 => ?_)
            refine hr_iload_n hC dX5_set_68 rfl 0 rfl ?_
            exact hr_ireti hC hr dX5_set_69
        · refine hr_bipush (v := -2) hC dX5_set_28 (by decide) ?_
          exact hr_ireti hC hr dX5_set_30
    · refine hr_bipush (v := -2) hC dX5_set_12 (by decide) ?_
      exact hr_ireti hC hr dX5_set_14
theorem hmX4_hasDevice_18 : Cond.fieldLink RX4 18 "HeatBills$Year" "deviceCount" "I" ∈ wsX4_hasDevice := List.mem_of_getElem? (i := 1) rfl
theorem hiX4_hasDevice_X4 : ∀ w ∈ wsX40, w ∈ wsX4_hasDevice := fun _ h => List.mem_cons_of_mem _ (List.mem_append_right _ h)
def fX4_hasDevice (n : Nat) (c0 : Nat) (p1 : Int32) (μ : hb_m) : Option (Int32 × hb_m) :=
if p1 < 0 then
(some ((0 : Int32), μ))
else
(if (rd μ c0 2) ≤ p1 then
(some ((0 : Int32), μ))
else
(some ((1 : Int32), μ)))
abbrev rmX4_hasDevice : Room := { frames := 0, cells := 0, slots := 0, locals := 0 }
set_option maxRecDepth 100000 in
set_option maxHeartbeats 4000000 in
theorem tX4_hasDevice {l : Launch} {D : va_G} {ad : Nat → Nat} {dA : Nat → ClassId} {t1 t2 : Nat} (hI : hb_I 241 ad) (n : Nat) (c0 : Nat) (h0 : hx_Y c0) (p1 : Int32) (μ : hb_m) : hb_M (hb_Qi vwCl kdX 241 ad D dA) l yX4_hasDevice wsX4_hasDevice rmX4_hasDevice vwCl kdX 241 ad D dA (tbX t1 t2) nwX [.ref (ad c0), .int p1] μ (fX4_hasDevice n c0 p1 μ) := by
  refine hb_start (cc := cX4_hasDevice) (maxL := 2) (ret := (some .boolean)) (by decide) rfl hI (Nat.le_of_ble_eq_true rfl) [(0, .ref (ad c0)), (1, .int p1)] rfl ?_
  intro p e s m args below meth c hC hr
  rw [fX4_hasDevice]
  refine hr_iload_n hC dX4_hasDevice_0 rfl 1 rfl ?_
  refine hr_if_lt (tgt := 16) hC dX4_hasDevice_1 (by decide) (fun _ => ?_) (fun _ => ?_)
  · refine hr_iconst (v := 0) hC dX4_hasDevice_16 (by decide) ?_
    exact hr_iretz hC hr dX4_hasDevice_17 rfl
  · refine hr_iload_n hC dX4_hasDevice_4 rfl 1 rfl ?_
    refine hr_aload_n hC dX4_hasDevice_5 rfl 0 rfl ?_
    refine hr_getI hC hiX4_hasDevice_X4 rfl (kxY h0) 2 (by decide) hmX4_hasDevice_18 rfl dX4_hasDevice_6 ?_
    refine hr_icmp_ge (tgt := 16) hC dX4_hasDevice_9 (by decide) (fun _ => ?_) (fun _ => ?_)
    · refine hr_iconst (v := 0) hC dX4_hasDevice_16 (by decide) ?_
      exact hr_iretz hC hr dX4_hasDevice_17 rfl
    · refine hr_iconst (v := 1) hC dX4_hasDevice_12 (by decide) ?_
      refine hr_goto (tgt := 17) hC dX4_hasDevice_13 (by decide) ?_
      exact hr_iretz hC hr dX4_hasDevice_17 rfl
theorem hmX2_closedYear_48 : Cond.fieldLink RX2 48 "HeatBills$House" "closedCount" "I" ∈ wsX2_closedYear := List.mem_of_getElem? (i := 1) rfl
theorem hmX2_closedYear_51 : Cond.fieldLink RX2 51 "HeatBills$House" "closedYears" "[LHeatBills$Year;" ∈ wsX2_closedYear := List.mem_of_getElem? (i := 2) rfl
theorem hiX2_closedYear_X2 : ∀ w ∈ wsX20, w ∈ wsX2_closedYear := fun _ h => List.mem_cons_of_mem _ (List.mem_append_right _ h)
def fX2_closedYear (n : Nat) (c0 : Nat) (p1 : Int32) (μ : hb_m) : Option (Option Nat × hb_m) :=
if p1 < 0 then
(some (none, μ))
else
(if (rd μ c0 10) ≤ p1 then
(some (none, μ))
else
(if ib p1 4 then
some (some (c0 + 14 + 6 * p1.toNatClampNeg), μ)
else none))
abbrev rmX2_closedYear : Room := { frames := 0, cells := 0, slots := 0, locals := 0 }
set_option maxRecDepth 100000 in
set_option maxHeartbeats 4000000 in
theorem tX2_closedYear {l : Launch} {D : va_G} {ad : Nat → Nat} {dA : Nat → ClassId} {t1 t2 : Nat} (hI : hb_I 241 ad) (n : Nat) (c0 : Nat) (h0 : hx_H c0) (p1 : Int32) (μ : hb_m) : hb_M (hb_Qr vwCl kdX 241 ad D dA) l yX2_closedYear wsX2_closedYear rmX2_closedYear vwCl kdX 241 ad D dA (tbX t1 t2) nwX [.ref (ad c0), .int p1] μ (fX2_closedYear n c0 p1 μ) := by
  refine hb_start (cc := cX2_closedYear) (maxL := 2) (ret := (some (.object "HeatBills$Year"))) (by decide) rfl hI (Nat.le_of_ble_eq_true rfl) [(0, .ref (ad c0)), (1, .int p1)] rfl ?_
  intro p e s m args below meth c hC hr
  rw [fX2_closedYear]
  refine hr_iload_n hC dX2_closedYear_0 rfl 1 rfl ?_
  refine hr_if_lt (tgt := 21) hC dX2_closedYear_1 (by decide) (fun _ => ?_) (fun _ => ?_)
  · refine hr_null hC dX2_closedYear_21 ?_
    exact hr_aretN hC hr dX2_closedYear_22
  · refine hr_iload_n hC dX2_closedYear_4 rfl 1 rfl ?_
    refine hr_aload_n hC dX2_closedYear_5 rfl 0 rfl ?_
    refine hr_getI hC hiX2_closedYear_X2 rfl (kxH h0) 10 (by decide) hmX2_closedYear_48 rfl dX2_closedYear_6 ?_
    refine hr_icmp_ge (tgt := 21) hC dX2_closedYear_9 (by decide) (fun _ => ?_) (fun _ => ?_)
    · refine hr_null hC dX2_closedYear_21 ?_
      exact hr_aretN hC hr dX2_closedYear_22
    · refine hr_aload_n hC dX2_closedYear_12 rfl 0 rfl ?_
      refine hr_getR hC hiX2_closedYear_X2 rfl (kxH h0) 11 (by decide) hmX2_closedYear_51 rfl dX2_closedYear_13 ?_
      refine hr_iload_n hC dX2_closedYear_16 rfl 1 rfl ?_
      refine hr_aald hC (fun j => c0 + 14 + 6 * j) 4 (kxH7 h0) rfl (kxH7c c0) dX2_closedYear_17 (fun hlt17 => ?_)
      refine hr_goto (tgt := 22) hC dX2_closedYear_18 (by decide) ?_
      exact hr_aret hC hr dX2_closedYear_22
theorem vX2_closedYear {n c0 : Nat} (h : hx_H c0) {p1 : Int32} {μ μ1 : hb_m} {r : Nat} (e : fX2_closedYear n c0 p1 μ = some (some r, μ1)) : hx_Y r := by
  have key : ∀ i : Int32, ib i 4 = true → hx_Y (c0 + 14 + 6 * i.toNatClampNeg) := by
    intro i hi
    refine hx_Yc h ?_
    simp only [ib, Bool.and_eq_true, decide_eq_true_eq] at hi
    exact hi.2
  unfold fX2_closedYear at e
  repeat' split at e
  all_goals first
    | (cases e; exact key _ (by assumption))
    | (cases e)
theorem hmX2_estimate_48 : Cond.fieldLink RX2 48 "HeatBills$House" "closedCount" "I" ∈ wsX2_estimate := List.mem_of_getElem? (i := 1) rfl
theorem hmX2_estimate_35 : Cond.fieldLink RX2 35 "HeatBills$House" "manner" "I" ∈ wsX2_estimate := List.mem_of_getElem? (i := 2) rfl
theorem hmX2_estimate_22 : Cond.fieldLink RX2 22 "HeatBills$House" "factors" "[I" ∈ wsX2_estimate := List.mem_of_getElem? (i := 4) rfl
theorem hmX2_estimate_85 : Cond.fieldLink RX2 85 "HeatBills$Year" "deviceUnits" "[I" ∈ wsX2_estimate := List.mem_of_getElem? (i := 3) rfl
theorem hiX2_estimate_X2 : ∀ w ∈ wsX20, w ∈ wsX2_estimate := fun _ h => List.mem_cons_of_mem _ (List.mem_append_left _ (List.mem_append_right _ h))
theorem hiX2_estimate_X4 : ∀ w ∈ wsX40, w ∈ wsX2_estimate := fun _ h => List.mem_cons_of_mem _ (List.mem_append_right _ h)
def fX2_estimate (n : Nat) (c0 : Nat) (p1 : Int32) (p2 : Int32) (p3 : Int32) (μ : hb_m) : Option (Int32 × hb_m) :=
br (fX2_closedYear n c0 ((rd μ c0 10) - (1 : Int32)) μ) (fun m7 =>
if (rd m7 c0 7) = (1 : Int32) then
(if p3 ≤ 0 then
(some ((0 : Int32), m7))
else
(if ib p1 20 then
if p3 = 0 then none else
some ((((rd m7 (c0 + 3) p1.toNatClampNeg) * p2) / p3), m7)
else none))
else
(if p3 ≤ 0 then
(some ((0 : Int32), m7))
else
(if ib p1 20 then
if p3 = 0 then none else
some ((((rd m7 (c0 + 3) p1.toNatClampNeg) * p2) / p3), m7)
else none))) (fun r7 m7 =>
if (rd m7 c0 7) = (1 : Int32) then
(bi (fX4_hasDevice n r7 p1 m7) (fun r28 m28 =>
if r28 = 0 then
(if p3 ≤ 0 then
(some ((0 : Int32), m28))
else
(if ib p1 20 then
if p3 = 0 then none else
some ((((rd m28 (c0 + 3) p1.toNatClampNeg) * p2) / p3), m28)
else none))
else
(if ib p1 20 then
some ((rd m28 (r7 + 3) p1.toNatClampNeg), m28)
else none)))
else
(if p3 ≤ 0 then
(some ((0 : Int32), m7))
else
(if ib p1 20 then
if p3 = 0 then none else
some ((((rd m7 (c0 + 3) p1.toNatClampNeg) * p2) / p3), m7)
else none)))
abbrev rmX2_estimate : Room := { frames := 1, cells := 0, slots := 0, locals := 21 }
set_option maxRecDepth 100000 in
set_option maxHeartbeats 4000000 in
theorem tX2_estimate {l : Launch} {D : va_G} {ad : Nat → Nat} {dA : Nat → ClassId} {t1 t2 : Nat} (hI : hb_I 241 ad) (n : Nat) (c0 : Nat) (h0 : hx_H c0) (p1 : Int32) (p2 : Int32) (p3 : Int32) (μ : hb_m) : hb_M (hb_Qi vwCl kdX 241 ad D dA) l yX2_estimate wsX2_estimate rmX2_estimate vwCl kdX 241 ad D dA (tbX t1 t2) nwX [.ref (ad c0), .int p1, .int p2, .int p3] μ (fX2_estimate n c0 p1 p2 p3 μ) := by
  refine hb_start (cc := cX2_estimate) (maxL := 5) (ret := (some .int)) (by decide) rfl hI (Nat.le_of_ble_eq_true rfl) [(0, .ref (ad c0)), (1, .int p1), (2, .int p2), (3, .int p3)] rfl ?_
  intro p e s m args below meth c hC hr
  rw [fX2_estimate]
  refine hr_aload_n hC dX2_estimate_0 rfl 0 rfl ?_
  refine hr_aload_n hC dX2_estimate_1 rfl 0 rfl ?_
  refine hr_getI hC hiX2_estimate_X2 rfl (kxH h0) 10 (by decide) hmX2_estimate_48 rfl dX2_estimate_2 ?_
  refine hr_iconst (v := 1) hC dX2_estimate_5 (by decide) ?_
  refine hr_isub hC dX2_estimate_6 ?_
  refine hr_callVr (As := [.int ((rd μ c0 10) - (1 : Int32))]) (k := c0) hC rfl (tX2_closedYear (t1 := t1) (t2 := t2) hI n c0 h0 ((rd μ c0 10) - (1 : Int32)) μ) (cwV 1 hC.1.2.2.2.2 gX2_estimate_X2_closedYear rfl rfl rfl (by decide +kernel) ⟨Nat.le_of_ble_eq_true rfl, Nat.le_of_ble_eq_true rfl⟩) (kxH h0) rfl rfl rfl (Nat.le_of_ble_eq_true rfl) dX2_estimate_7 (fun m7 => ?_) (fun r7 m7 e7 => ?_)
  · refine hr_astoreN (lv' := [(4, .null), (0, .ref (ad c0)), (1, .int p1), (2, .int p2), (3, .int p3)]) hC dX2_estimate_10 (by decide) rfl ?_
    refine hr_aload_n hC dX2_estimate_12 rfl 1 rfl ?_
    refine hr_getI hC hiX2_estimate_X2 rfl (kxH h0) 7 (by decide) hmX2_estimate_35 rfl dX2_estimate_13 ?_
    refine hr_iconst (v := 1) hC dX2_estimate_16 (by decide) ?_
    refine hr_icmp_ne (tgt := 42) hC dX2_estimate_17 (by decide) (fun _ => ?_) (fun _ => ?_)
    · refine hr_aloadN hC dX2_estimate_20 0 rfl ?_
      refine hr_ifnullN (tgt := 42) hC dX2_estimate_22 (by decide) ?_
      refine hr_iload_n hC dX2_estimate_42 rfl 4 rfl ?_
      refine hr_if_le (tgt := 59) hC dX2_estimate_43 (by decide) (fun _ => ?_) (fun _ => ?_)
      · refine hr_iconst (v := 0) hC dX2_estimate_59 (by decide) ?_
        exact hr_ireti hC hr dX2_estimate_60
      · refine hr_aload_n hC dX2_estimate_46 rfl 1 rfl ?_
        refine hr_getR hC hiX2_estimate_X2 rfl (kxH h0) 3 (by decide) hmX2_estimate_22 rfl dX2_estimate_47 ?_
        refine hr_iload_n hC dX2_estimate_50 rfl 2 rfl ?_
        refine hr_iald hC (kxH3 h0) dX2_estimate_51 ?_
        refine hr_iload_n hC dX2_estimate_52 rfl 3 rfl ?_
        refine hr_imul hC dX2_estimate_53 ?_
        refine hr_iload_n hC dX2_estimate_54 rfl 4 rfl ?_
        refine hr_idivZ hC dX2_estimate_55 ?_
        refine hr_goto (tgt := 60) hC dX2_estimate_56 (by decide) ?_
        exact hr_ireti hC hr dX2_estimate_60
    · refine hr_iload_n hC dX2_estimate_42 rfl 4 rfl ?_
      refine hr_if_le (tgt := 59) hC dX2_estimate_43 (by decide) (fun _ => ?_) (fun _ => ?_)
      · refine hr_iconst (v := 0) hC dX2_estimate_59 (by decide) ?_
        exact hr_ireti hC hr dX2_estimate_60
      · refine hr_aload_n hC dX2_estimate_46 rfl 1 rfl ?_
        refine hr_getR hC hiX2_estimate_X2 rfl (kxH h0) 3 (by decide) hmX2_estimate_22 rfl dX2_estimate_47 ?_
        refine hr_iload_n hC dX2_estimate_50 rfl 2 rfl ?_
        refine hr_iald hC (kxH3 h0) dX2_estimate_51 ?_
        refine hr_iload_n hC dX2_estimate_52 rfl 3 rfl ?_
        refine hr_imul hC dX2_estimate_53 ?_
        refine hr_iload_n hC dX2_estimate_54 rfl 4 rfl ?_
        refine hr_idivZ hC dX2_estimate_55 ?_
        refine hr_goto (tgt := 60) hC dX2_estimate_56 (by decide) ?_
        exact hr_ireti hC hr dX2_estimate_60
  · refine hr_astore (lv' := [(4, .ref (ad r7)), (0, .ref (ad c0)), (1, .int p1), (2, .int p2), (3, .int p3)]) hC dX2_estimate_10 (by decide) rfl ?_
    refine hr_aload_n hC dX2_estimate_12 rfl 1 rfl ?_
    refine hr_getI hC hiX2_estimate_X2 rfl (kxH h0) 7 (by decide) hmX2_estimate_35 rfl dX2_estimate_13 ?_
    refine hr_iconst (v := 1) hC dX2_estimate_16 (by decide) ?_
    refine hr_icmp_ne (tgt := 42) hC dX2_estimate_17 (by decide) (fun _ => ?_) (fun _ => ?_)
    · refine hr_aload hC dX2_estimate_20 0 rfl ?_
      refine hr_ifnull hC dX2_estimate_22 ?_
      refine hr_aload hC dX2_estimate_25 0 rfl ?_
      refine hr_iload_n hC dX2_estimate_27 rfl 2 rfl ?_
      refine hr_callVi (As := [.int p1]) (k := r7) hC rfl (tX4_hasDevice (t1 := t1) (t2 := t2) hI n r7 (vX2_closedYear h0 e7) p1 m7) (cwV 1 hC.1.2.2.2.2 gX2_estimate_X4_hasDevice rfl rfl rfl (by decide +kernel) ⟨Nat.le_of_ble_eq_true rfl, Nat.le_of_ble_eq_true rfl⟩) (kxY (vX2_closedYear h0 e7)) rfl rfl rfl (Nat.le_of_ble_eq_true rfl) dX2_estimate_28 (fun r28 m28 => ?_)
      refine hr_if_eq (tgt := 42) hC dX2_estimate_31 (by decide) (fun _ => ?_) (fun _ => ?_)
      · refine hr_iload_n hC dX2_estimate_42 rfl 4 rfl ?_
        refine hr_if_le (tgt := 59) hC dX2_estimate_43 (by decide) (fun _ => ?_) (fun _ => ?_)
        · refine hr_iconst (v := 0) hC dX2_estimate_59 (by decide) ?_
          exact hr_ireti hC hr dX2_estimate_60
        · refine hr_aload_n hC dX2_estimate_46 rfl 1 rfl ?_
          refine hr_getR hC hiX2_estimate_X2 rfl (kxH h0) 3 (by decide) hmX2_estimate_22 rfl dX2_estimate_47 ?_
          refine hr_iload_n hC dX2_estimate_50 rfl 2 rfl ?_
          refine hr_iald hC (kxH3 h0) dX2_estimate_51 ?_
          refine hr_iload_n hC dX2_estimate_52 rfl 3 rfl ?_
          refine hr_imul hC dX2_estimate_53 ?_
          refine hr_iload_n hC dX2_estimate_54 rfl 4 rfl ?_
          refine hr_idivZ hC dX2_estimate_55 ?_
          refine hr_goto (tgt := 60) hC dX2_estimate_56 (by decide) ?_
          exact hr_ireti hC hr dX2_estimate_60
      · refine hr_aload hC dX2_estimate_34 0 rfl ?_
        refine hr_getR hC hiX2_estimate_X4 rfl (kxY (vX2_closedYear h0 e7)) 5 (by decide) hmX2_estimate_85 rfl dX2_estimate_36 ?_
        refine hr_iload_n hC dX2_estimate_39 rfl 2 rfl ?_
        refine hr_iald hC (kxY3 (vX2_closedYear h0 e7)) dX2_estimate_40 ?_
        exact hr_ireti hC hr dX2_estimate_41
    · refine hr_iload_n hC dX2_estimate_42 rfl 4 rfl ?_
      refine hr_if_le (tgt := 59) hC dX2_estimate_43 (by decide) (fun _ => ?_) (fun _ => ?_)
      · refine hr_iconst (v := 0) hC dX2_estimate_59 (by decide) ?_
        exact hr_ireti hC hr dX2_estimate_60
      · refine hr_aload_n hC dX2_estimate_46 rfl 1 rfl ?_
        refine hr_getR hC hiX2_estimate_X2 rfl (kxH h0) 3 (by decide) hmX2_estimate_22 rfl dX2_estimate_47 ?_
        refine hr_iload_n hC dX2_estimate_50 rfl 2 rfl ?_
        refine hr_iald hC (kxH3 h0) dX2_estimate_51 ?_
        refine hr_iload_n hC dX2_estimate_52 rfl 3 rfl ?_
        refine hr_imul hC dX2_estimate_53 ?_
        refine hr_iload_n hC dX2_estimate_54 rfl 4 rfl ?_
        refine hr_idivZ hC dX2_estimate_55 ?_
        refine hr_goto (tgt := 60) hC dX2_estimate_56 (by decide) ?_
        exact hr_ireti hC hr dX2_estimate_60

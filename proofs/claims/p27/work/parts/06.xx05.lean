theorem hmX5_flat_12 : Cond.fieldLink RX5 12 "HeatBills" "now" "LHeatBills$House;" ∈ wsX5_flat := List.mem_of_getElem? (i := 1) rfl
theorem hmX5_flat_55 : Cond.fieldLink RX5 55 "HeatBills$House" "areas" "[I" ∈ wsX5_flat := List.mem_of_getElem? (i := 2) rfl
theorem hmX5_flat_40 : Cond.fieldLink RX5 40 "HeatBills" "accounts" "LHeatBills$Accounts;" ∈ wsX5_flat := List.mem_of_getElem? (i := 3) rfl
theorem hmX5_flat_192 : Cond.fieldLink RX5 192 "HeatBills$Accounts" "flatUnits" "[I" ∈ wsX5_flat := List.mem_of_getElem? (i := 4) rfl
theorem hmX5_flat_195 : Cond.fieldLink RX5 195 "HeatBills$Accounts" "baseCosts" "[I" ∈ wsX5_flat := List.mem_of_getElem? (i := 5) rfl
theorem hmX5_flat_198 : Cond.fieldLink RX5 198 "HeatBills$Accounts" "unitCosts" "[I" ∈ wsX5_flat := List.mem_of_getElem? (i := 6) rfl
theorem hmX5_flat_63 : Cond.fieldLink RX5 63 "HeatBills$House" "openYear" "LHeatBills$Year;" ∈ wsX5_flat := List.mem_of_getElem? (i := 7) rfl
theorem hmX5_flat_135 : Cond.fieldLink RX5 135 "HeatBills$Year" "moveMonths" "[I" ∈ wsX5_flat := List.mem_of_getElem? (i := 8) rfl
theorem hmX5_flat_141 : Cond.fieldLink RX5 141 "HeatBills$Year" "parts" "[I" ∈ wsX5_flat := List.mem_of_getElem? (i := 9) rfl
theorem hiX5_flat_X5 : ∀ w ∈ wsX50, w ∈ wsX5_flat := fun _ h => List.mem_cons_of_mem _ (List.mem_append_left _ (List.mem_append_left _ (List.mem_append_left _ (List.mem_append_right _ h))))
theorem hiX5_flat_X2 : ∀ w ∈ wsX20, w ∈ wsX5_flat := fun _ h => List.mem_cons_of_mem _ (List.mem_append_left _ (List.mem_append_left _ (List.mem_append_right _ h)))
theorem hiX5_flat_X0 : ∀ w ∈ wsX00, w ∈ wsX5_flat := fun _ h => List.mem_cons_of_mem _ (List.mem_append_left _ (List.mem_append_right _ h))
theorem hiX5_flat_X4 : ∀ w ∈ wsX40, w ∈ wsX5_flat := fun _ h => List.mem_cons_of_mem _ (List.mem_append_right _ h)
def fX5_flat (n : Nat) (p1 : Int32) (p2 : Int32) (μ : hb_m) : Option (Int32 × hb_m) :=
bi (fX2_hasFlat n 0 p1 μ) (fun r5 m5 =>
if r5 = 0 then
(some ((-1 : Int32), m5))
else
(if p2 < 0 then
(some ((-2 : Int32), m5))
else
(if p2 ≤ (7 : Int32) then
(bv (fX5_drawUpOpenYear n m5) (fun m27 =>
if p2 = 0 then
(if ib p1 8 then
some ((rd m27 (0 + 1) p1.toNatClampNeg), m27)
else none)
else if p2 = 1 then
(bi (fX2_devicesAsBits n 0 p1 m27) (fun r87 m87 =>
some (r87, m87)))
else if p2 = 2 then
(if ib p1 8 then
some ((rd m27 236 p1.toNatClampNeg), m27)
else none)
else if p2 = 3 then
(if ib p1 8 then
some ((rd m27 237 p1.toNatClampNeg), m27)
else none)
else if p2 = 4 then
(if ib p1 8 then
some ((rd m27 238 p1.toNatClampNeg), m27)
else none)
else if p2 = 5 then
(bi (fX0_billOfFlat n p1 m27) (fun r126 m126 =>
some (r126, m126)))
else if p2 = 6 then
(if ib p1 8 then
some ((rd m27 ((0 + 8) + 1) p1.toNatClampNeg), m27)
else none)
else 
(if ib p1 8 then
some ((rd m27 ((0 + 8) + 2) p1.toNatClampNeg), m27)
else none)))
else
(some ((-2 : Int32), m5)))))
abbrev rmX5_flat : Room := { frames := 5, cells := 0, slots := 0, locals := 121 }
set_option maxRecDepth 100000 in
set_option maxHeartbeats 4000000 in
theorem tX5_flat {l : Launch} {D : va_G} {ad : Nat → Nat} {dA : Nat → ClassId} {t1 t2 : Nat} (hI : hb_I 241 ad) (n : Nat) (p1 : Int32) (p2 : Int32) (μ : hb_m) : hb_M (hb_Qi vwCl kdX 241 ad D dA) l yX5_flat wsX5_flat rmX5_flat vwCl kdX 241 ad D dA (tbX t1 t2) nwX [.ref (ad 228), .int p1, .int p2] μ (fX5_flat n p1 p2 μ) := by
  refine hb_start (cc := cX5_flat) (maxL := 3) (ret := (some .int)) (by decide) rfl hI (Nat.le_of_ble_eq_true rfl) [(0, .ref (ad 228)), (1, .int p1), (2, .int p2)] rfl ?_
  intro p e s m args below meth c hC hr
  rw [fX5_flat]
  refine hr_aload_n hC dX5_flat_0 rfl 0 rfl ?_
  refine hr_getR hC hiX5_flat_X5 rfl kx228 0 (by decide) hmX5_flat_12 rfl dX5_flat_1 ?_
  refine hr_iload_n hC dX5_flat_4 rfl 1 rfl ?_
  refine hr_callVi (As := [.int p1]) (k := 0) hC rfl (tX2_hasFlat (t1 := t1) (t2 := t2) hI n 0 hx_H0 p1 μ) (cwV 1 hC.1.2.2.2.2 gX5_flat_X2_hasFlat rfl rfl rfl (by decide +kernel) ⟨Nat.le_of_ble_eq_true rfl, Nat.le_of_ble_eq_true rfl⟩) (kxH hx_H0) rfl rfl rfl (Nat.le_of_ble_eq_true rfl) dX5_flat_5 (fun r5 m5 => ?_)
  refine hr_if_ne (tgt := 13) hC dX5_flat_8 (by decide) (fun _ => ?_) (fun _ => ?_)
  · refine hr_iconst (v := -1) hC dX5_flat_11 (by decide) ?_
    exact hr_ireti hC hr dX5_flat_12
  · refine hr_iload_n hC dX5_flat_13 rfl 2 rfl ?_
    refine hr_if_lt (tgt := 23) hC dX5_flat_14 (by decide) (fun _ => ?_) (fun _ => ?_)
    · refine hr_bipush (v := -2) hC dX5_flat_23 (by decide) ?_
      exact hr_ireti hC hr dX5_flat_25
    · refine hr_iload_n hC dX5_flat_17 rfl 2 rfl ?_
      refine hr_bipush (v := 7) hC dX5_flat_18 (by decide) ?_
      refine hr_icmp_le (tgt := 26) hC dX5_flat_20 (by decide) (fun _ => ?_) (fun _ => ?_)
      · refine hr_aload_n hC dX5_flat_26 rfl 0 rfl ?_
        refine hr_callVv (As := []) (k := 228) hC rfl (tX5_drawUpOpenYear (t1 := t1) (t2 := t2) hI n m5) (cwV 0 hC.1.2.2.2.2 gX5_flat_X5_drawUpOpenYear rfl rfl rfl (by decide +kernel) ⟨Nat.le_of_ble_eq_true rfl, Nat.le_of_ble_eq_true rfl⟩) kx228 rfl rfl rfl (Nat.le_of_ble_eq_true rfl) dX5_flat_27 (fun m27 => ?_)
        refine hr_iload_n hC dX5_flat_30 rfl 2 rfl ?_
        refine hr_swIn (tgt := 72) (off := 41) (v := 0) hC dX5_flat_31 (by decide) (by decide) (by decide) (by decide) ?_ (fun g0 => ?_)
        · refine hr_aload_n hC dX5_flat_72 rfl 0 rfl ?_
          refine hr_getR hC hiX5_flat_X5 rfl kx228 0 (by decide) hmX5_flat_12 rfl dX5_flat_73 ?_
          refine hr_getR hC hiX5_flat_X2 rfl (kxH hx_H0) 1 (by decide) hmX5_flat_55 rfl dX5_flat_76 ?_
          refine hr_iload_n hC dX5_flat_79 rfl 1 rfl ?_
          refine hr_iald hC (kxH1 hx_H0) dX5_flat_80 ?_
          exact hr_ireti hC hr dX5_flat_81
        refine hr_swIn (tgt := 82) (off := 51) (v := 1) hC dX5_flat_31 (by decide) (by decide) (by decide) (by decide) ?_ (fun g1 => ?_)
        · refine hr_aload_n hC dX5_flat_82 rfl 0 rfl ?_
          refine hr_getR hC hiX5_flat_X5 rfl kx228 0 (by decide) hmX5_flat_12 rfl dX5_flat_83 ?_
          refine hr_iload_n hC dX5_flat_86 rfl 1 rfl ?_
          refine hr_callVi (As := [.int p1]) (k := 0) hC rfl (tX2_devicesAsBits (t1 := t1) (t2 := t2) hI n 0 hx_H0 p1 m27) (cwV 1 hC.1.2.2.2.2 gX5_flat_X2_devicesAsBits rfl rfl rfl (by decide +kernel) ⟨Nat.le_of_ble_eq_true rfl, Nat.le_of_ble_eq_true rfl⟩) (kxH hx_H0) rfl rfl rfl (Nat.le_of_ble_eq_true rfl) dX5_flat_87 (fun r87 m87 => ?_)
          exact hr_ireti hC hr dX5_flat_90
        refine hr_swIn (tgt := 91) (off := 60) (v := 2) hC dX5_flat_31 (by decide) (by decide) (by decide) (by decide) ?_ (fun g2 => ?_)
        · refine hr_aload_n hC dX5_flat_91 rfl 0 rfl ?_
          refine hr_getR hC hiX5_flat_X5 rfl kx228 5 (by decide) hmX5_flat_40 rfl dX5_flat_92 ?_
          refine hr_getR hC hiX5_flat_X0 rfl kx235 0 (by decide) hmX5_flat_192 rfl dX5_flat_95 ?_
          refine hr_iload_n hC dX5_flat_98 rfl 1 rfl ?_
          refine hr_iald hC kx236 dX5_flat_99 ?_
          exact hr_ireti hC hr dX5_flat_100
        refine hr_swIn (tgt := 101) (off := 70) (v := 3) hC dX5_flat_31 (by decide) (by decide) (by decide) (by decide) ?_ (fun g3 => ?_)
        · refine hr_aload_n hC dX5_flat_101 rfl 0 rfl ?_
          refine hr_getR hC hiX5_flat_X5 rfl kx228 5 (by decide) hmX5_flat_40 rfl dX5_flat_102 ?_
          refine hr_getR hC hiX5_flat_X0 rfl kx235 1 (by decide) hmX5_flat_195 rfl dX5_flat_105 ?_
          refine hr_iload_n hC dX5_flat_108 rfl 1 rfl ?_
          refine hr_iald hC kx237 dX5_flat_109 ?_
          exact hr_ireti hC hr dX5_flat_110
        refine hr_swIn (tgt := 111) (off := 80) (v := 4) hC dX5_flat_31 (by decide) (by decide) (by decide) (by decide) ?_ (fun g4 => ?_)
        · refine hr_aload_n hC dX5_flat_111 rfl 0 rfl ?_
          refine hr_getR hC hiX5_flat_X5 rfl kx228 5 (by decide) hmX5_flat_40 rfl dX5_flat_112 ?_
          refine hr_getR hC hiX5_flat_X0 rfl kx235 2 (by decide) hmX5_flat_198 rfl dX5_flat_115 ?_
          refine hr_iload_n hC dX5_flat_118 rfl 1 rfl ?_
          refine hr_iald hC kx238 dX5_flat_119 ?_
          exact hr_ireti hC hr dX5_flat_120
        refine hr_swIn (tgt := 121) (off := 90) (v := 5) hC dX5_flat_31 (by decide) (by decide) (by decide) (by decide) ?_ (fun g5 => ?_)
        · refine hr_aload_n hC dX5_flat_121 rfl 0 rfl ?_
          refine hr_getR hC hiX5_flat_X5 rfl kx228 5 (by decide) hmX5_flat_40 rfl dX5_flat_122 ?_
          refine hr_iload_n hC dX5_flat_125 rfl 1 rfl ?_
          refine hr_callVi (As := [.int p1]) (k := 235) hC rfl (tX0_billOfFlat (t1 := t1) (t2 := t2) hI n p1 m27) (cwV 1 hC.1.2.2.2.2 gX5_flat_X0_billOfFlat rfl rfl rfl (by decide +kernel) ⟨Nat.le_of_ble_eq_true rfl, Nat.le_of_ble_eq_true rfl⟩) kx235 rfl rfl rfl (Nat.le_of_ble_eq_true rfl) dX5_flat_126 (fun r126 m126 => ?_)
          exact hr_ireti hC hr dX5_flat_129
        refine hr_swIn (tgt := 130) (off := 99) (v := 6) hC dX5_flat_31 (by decide) (by decide) (by decide) (by decide) ?_ (fun g6 => ?_)
        · refine hr_aload_n hC dX5_flat_130 rfl 0 rfl ?_
          refine hr_getR hC hiX5_flat_X5 rfl kx228 0 (by decide) hmX5_flat_12 rfl dX5_flat_131 ?_
          refine hr_getR hC hiX5_flat_X2 rfl (kxH hx_H0) 9 (by decide) hmX5_flat_63 rfl dX5_flat_134 ?_
          refine hr_getR hC hiX5_flat_X4 rfl (kxY (hx_Yo hx_H0)) 3 (by decide) hmX5_flat_135 rfl dX5_flat_137 ?_
          refine hr_iload_n hC dX5_flat_140 rfl 1 rfl ?_
          refine hr_iald hC (kxY1 (hx_Yo hx_H0)) dX5_flat_141 ?_
          exact hr_ireti hC hr dX5_flat_142
        refine hr_swOut (tgt := 143) hC dX5_flat_31 (by have e0 := lv_neT g0 (a := 0) rfl; have e1 := lv_neT g1 (a := 1) rfl; have e2 := lv_neT g2 (a := 2) rfl; have e3 := lv_neT g3 (a := 3) rfl; have e4 := lv_neT g4 (a := 4) rfl; have e5 := lv_neT g5 (a := 5) rfl; have e6 := lv_neT g6 (a := 6) rfl; omega) (by decide) ?_
        refine hr_aload_n hC dX5_flat_143 rfl 0 rfl ?_
        refine hr_getR hC hiX5_flat_X5 rfl kx228 0 (by decide) hmX5_flat_12 rfl dX5_flat_144 ?_
        refine hr_getR hC hiX5_flat_X2 rfl (kxH hx_H0) 9 (by decide) hmX5_flat_63 rfl dX5_flat_147 ?_
        refine hr_getR hC hiX5_flat_X4 rfl (kxY (hx_Yo hx_H0)) 4 (by decide) hmX5_flat_141 rfl dX5_flat_150 ?_
        refine hr_iload_n hC dX5_flat_153 rfl 1 rfl ?_
        refine hr_iald hC (kxY2 (hx_Yo hx_H0)) dX5_flat_154 ?_
        exact hr_ireti hC hr dX5_flat_155
      · refine hr_bipush (v := -2) hC dX5_flat_23 (by decide) ?_
        exact hr_ireti hC hr dX5_flat_25
theorem hmX5_device_12 : Cond.fieldLink RX5 12 "HeatBills" "now" "LHeatBills$House;" ∈ wsX5_device := List.mem_of_getElem? (i := 1) rfl
theorem hmX5_device_63 : Cond.fieldLink RX5 63 "HeatBills$House" "openYear" "LHeatBills$Year;" ∈ wsX5_device := List.mem_of_getElem? (i := 2) rfl
theorem hmX5_device_72 : Cond.fieldLink RX5 72 "HeatBills$House" "deviceFlats" "[I" ∈ wsX5_device := List.mem_of_getElem? (i := 3) rfl
theorem hmX5_device_75 : Cond.fieldLink RX5 75 "HeatBills$House" "factors" "[I" ∈ wsX5_device := List.mem_of_getElem? (i := 4) rfl
theorem hmX5_device_92 : Cond.fieldLink RX5 92 "HeatBills$House" "beginReadings" "[I" ∈ wsX5_device := List.mem_of_getElem? (i := 5) rfl
theorem hmX5_device_95 : Cond.fieldLink RX5 95 "HeatBills$House" "endReadings" "[I" ∈ wsX5_device := List.mem_of_getElem? (i := 6) rfl
theorem hmX5_device_104 : Cond.fieldLink RX5 104 "HeatBills$House" "faulty" "[Z" ∈ wsX5_device := List.mem_of_getElem? (i := 7) rfl
theorem hmX5_device_101 : Cond.fieldLink RX5 101 "HeatBills$Year" "deviceUnits" "[I" ∈ wsX5_device := List.mem_of_getElem? (i := 8) rfl
theorem hiX5_device_X5 : ∀ w ∈ wsX50, w ∈ wsX5_device := fun _ h => List.mem_cons_of_mem _ (List.mem_append_left _ (List.mem_append_left _ (List.mem_append_right _ h)))
theorem hiX5_device_X2 : ∀ w ∈ wsX20, w ∈ wsX5_device := fun _ h => List.mem_cons_of_mem _ (List.mem_append_left _ (List.mem_append_right _ h))
theorem hiX5_device_X4 : ∀ w ∈ wsX40, w ∈ wsX5_device := fun _ h => List.mem_cons_of_mem _ (List.mem_append_right _ h)
def fX5_device (n : Nat) (p1 : Int32) (p2 : Int32) (μ : hb_m) : Option (Int32 × hb_m) :=
bi (fX4_hasDevice n (0 + 8) p1 μ) (fun r8 m8 =>
if r8 = 0 then
(some ((-1 : Int32), m8))
else
(if p2 < 0 then
(some ((-2 : Int32), m8))
else
(if p2 ≤ (5 : Int32) then
(if p2 = 0 then
(if ib p1 20 then
some ((rd m8 (0 + 2) p1.toNatClampNeg), m8)
else none)
else if p2 = 1 then
(if ib p1 20 then
some ((rd m8 (0 + 3) p1.toNatClampNeg), m8)
else none)
else if p2 = 2 then
(if ib p1 20 then
some ((rd m8 (0 + 4) p1.toNatClampNeg), m8)
else none)
else if p2 = 3 then
(if ib p1 20 then
some ((rd m8 (0 + 5) p1.toNatClampNeg), m8)
else none)
else if p2 = 4 then
(if ib p1 20 then
if (rd m8 (0 + 6) p1.toNatClampNeg) = 0 then
(some ((0 : Int32), m8))
else
(some ((1 : Int32), m8))
else none)
else 
(bv (fX2_countUnits n 0 m8) (fun m126 =>
if ib p1 20 then
some ((rd m126 ((0 + 8) + 3) p1.toNatClampNeg), m126)
else none)))
else
(some ((-2 : Int32), m8)))))
abbrev rmX5_device : Room := { frames := 3, cells := 0, slots := 0, locals := 69 }
set_option maxRecDepth 100000 in
set_option maxHeartbeats 4000000 in
theorem tX5_device {l : Launch} {D : va_G} {ad : Nat → Nat} {dA : Nat → ClassId} {t1 t2 : Nat} (hI : hb_I 241 ad) (n : Nat) (p1 : Int32) (p2 : Int32) (μ : hb_m) : hb_M (hb_Qi vwCl kdX 241 ad D dA) l yX5_device wsX5_device rmX5_device vwCl kdX 241 ad D dA (tbX t1 t2) nwX [.ref (ad 228), .int p1, .int p2] μ (fX5_device n p1 p2 μ) := by
  refine hb_start (cc := cX5_device) (maxL := 3) (ret := (some .int)) (by decide) rfl hI (Nat.le_of_ble_eq_true rfl) [(0, .ref (ad 228)), (1, .int p1), (2, .int p2)] rfl ?_
  intro p e s m args below meth c hC hr
  rw [fX5_device]
  refine hr_aload_n hC dX5_device_0 rfl 0 rfl ?_
  refine hr_getR hC hiX5_device_X5 rfl kx228 0 (by decide) hmX5_device_12 rfl dX5_device_1 ?_
  refine hr_getR hC hiX5_device_X2 rfl (kxH hx_H0) 9 (by decide) hmX5_device_63 rfl dX5_device_4 ?_
  refine hr_iload_n hC dX5_device_7 rfl 1 rfl ?_
  refine hr_callVi (As := [.int p1]) (k := (0 + 8)) hC rfl (tX4_hasDevice (t1 := t1) (t2 := t2) hI n (0 + 8) (hx_Yo hx_H0) p1 μ) (cwV 1 hC.1.2.2.2.2 gX5_device_X4_hasDevice rfl rfl rfl (by decide +kernel) ⟨Nat.le_of_ble_eq_true rfl, Nat.le_of_ble_eq_true rfl⟩) (kxY (hx_Yo hx_H0)) rfl rfl rfl (Nat.le_of_ble_eq_true rfl) dX5_device_8 (fun r8 m8 => ?_)
  refine hr_if_ne (tgt := 16) hC dX5_device_11 (by decide) (fun _ => ?_) (fun _ => ?_)
  · refine hr_iconst (v := -1) hC dX5_device_14 (by decide) ?_
    exact hr_ireti hC hr dX5_device_15
  · refine hr_iload_n hC dX5_device_16 rfl 2 rfl ?_
    refine hr_if_lt (tgt := 25) hC dX5_device_17 (by decide) (fun _ => ?_) (fun _ => ?_)
    · refine hr_bipush (v := -2) hC dX5_device_25 (by decide) ?_
      exact hr_ireti hC hr dX5_device_27
    · refine hr_iload_n hC dX5_device_20 rfl 2 rfl ?_
      refine hr_iconst (v := 5) hC dX5_device_21 (by decide) ?_
      refine hr_icmp_le (tgt := 28) hC dX5_device_22 (by decide) (fun _ => ?_) (fun _ => ?_)
      · refine hr_iload_n hC dX5_device_28 rfl 2 rfl ?_
        refine hr_swIn (tgt := 64) (off := 35) (v := 0) hC dX5_device_29 (by decide) (by decide) (by decide) (by decide) ?_ (fun g0 => ?_)
        · refine hr_aload_n hC dX5_device_64 rfl 0 rfl ?_
          refine hr_getR hC hiX5_device_X5 rfl kx228 0 (by decide) hmX5_device_12 rfl dX5_device_65 ?_
          refine hr_getR hC hiX5_device_X2 rfl (kxH hx_H0) 2 (by decide) hmX5_device_72 rfl dX5_device_68 ?_
          refine hr_iload_n hC dX5_device_71 rfl 1 rfl ?_
          refine hr_iald hC (kxH2 hx_H0) dX5_device_72 ?_
          exact hr_ireti hC hr dX5_device_73
        refine hr_swIn (tgt := 74) (off := 45) (v := 1) hC dX5_device_29 (by decide) (by decide) (by decide) (by decide) ?_ (fun g1 => ?_)
        · refine hr_aload_n hC dX5_device_74 rfl 0 rfl ?_
          refine hr_getR hC hiX5_device_X5 rfl kx228 0 (by decide) hmX5_device_12 rfl dX5_device_75 ?_
          refine hr_getR hC hiX5_device_X2 rfl (kxH hx_H0) 3 (by decide) hmX5_device_75 rfl dX5_device_78 ?_
          refine hr_iload_n hC dX5_device_81 rfl 1 rfl ?_
          refine hr_iald hC (kxH3 hx_H0) dX5_device_82 ?_
          exact hr_ireti hC hr dX5_device_83
        refine hr_swIn (tgt := 84) (off := 55) (v := 2) hC dX5_device_29 (by decide) (by decide) (by decide) (by decide) ?_ (fun g2 => ?_)
        · refine hr_aload_n hC dX5_device_84 rfl 0 rfl ?_
          refine hr_getR hC hiX5_device_X5 rfl kx228 0 (by decide) hmX5_device_12 rfl dX5_device_85 ?_
          refine hr_getR hC hiX5_device_X2 rfl (kxH hx_H0) 4 (by decide) hmX5_device_92 rfl dX5_device_88 ?_
          refine hr_iload_n hC dX5_device_91 rfl 1 rfl ?_
          refine hr_iald hC (kxH4 hx_H0) dX5_device_92 ?_
          exact hr_ireti hC hr dX5_device_93
        refine hr_swIn (tgt := 94) (off := 65) (v := 3) hC dX5_device_29 (by decide) (by decide) (by decide) (by decide) ?_ (fun g3 => ?_)
        · refine hr_aload_n hC dX5_device_94 rfl 0 rfl ?_
          refine hr_getR hC hiX5_device_X5 rfl kx228 0 (by decide) hmX5_device_12 rfl dX5_device_95 ?_
          refine hr_getR hC hiX5_device_X2 rfl (kxH hx_H0) 5 (by decide) hmX5_device_95 rfl dX5_device_98 ?_
          refine hr_iload_n hC dX5_device_101 rfl 1 rfl ?_
          refine hr_iald hC (kxH5 hx_H0) dX5_device_102 ?_
          exact hr_ireti hC hr dX5_device_103
        refine hr_swIn (tgt := 104) (off := 75) (v := 4) hC dX5_device_29 (by decide) (by decide) (by decide) (by decide) ?_ (fun g4 => ?_)
        · refine hr_aload_n hC dX5_device_104 rfl 0 rfl ?_
          refine hr_getR hC hiX5_device_X5 rfl kx228 0 (by decide) hmX5_device_12 rfl dX5_device_105 ?_
          refine hr_getR hC hiX5_device_X2 rfl (kxH hx_H0) 6 (by decide) hmX5_device_104 rfl dX5_device_108 ?_
          refine hr_iload_n hC dX5_device_111 rfl 1 rfl ?_
          refine hr_zald hC (kxH6 hx_H0) dX5_device_112 ?_
          refine hr_if_eq (tgt := 120) hC dX5_device_113 (by decide) (fun _ => ?_) (fun _ => ?_)
          · refine hr_iconst (v := 0) hC dX5_device_120 (by decide) ?_
            exact hr_ireti hC hr dX5_device_121
          · refine hr_iconst (v := 1) hC dX5_device_116 (by decide) ?_
            refine hr_goto (tgt := 121) hC dX5_device_117 (by decide) ?_
            exact hr_ireti hC hr dX5_device_121
        refine hr_swOut (tgt := 122) hC dX5_device_29 (by have e0 := lv_neT g0 (a := 0) rfl; have e1 := lv_neT g1 (a := 1) rfl; have e2 := lv_neT g2 (a := 2) rfl; have e3 := lv_neT g3 (a := 3) rfl; have e4 := lv_neT g4 (a := 4) rfl; omega) (by decide) ?_
        refine hr_aload_n hC dX5_device_122 rfl 0 rfl ?_
        refine hr_getR hC hiX5_device_X5 rfl kx228 0 (by decide) hmX5_device_12 rfl dX5_device_123 ?_
        refine hr_callVv (As := []) (k := 0) hC rfl (tX2_countUnits (t1 := t1) (t2 := t2) hI n 0 hx_H0 m8) (cwV 0 hC.1.2.2.2.2 gX5_device_X2_countUnits rfl rfl rfl (by decide +kernel) ⟨Nat.le_of_ble_eq_true rfl, Nat.le_of_ble_eq_true rfl⟩) (kxH hx_H0) rfl rfl rfl (Nat.le_of_ble_eq_true rfl) dX5_device_126 (fun m126 => ?_)
        refine hr_aload_n hC dX5_device_129 rfl 0 rfl ?_
        refine hr_getR hC hiX5_device_X5 rfl kx228 0 (by decide) hmX5_device_12 rfl dX5_device_130 ?_
        refine hr_getR hC hiX5_device_X2 rfl (kxH hx_H0) 9 (by decide) hmX5_device_63 rfl dX5_device_133 ?_
        refine hr_getR hC hiX5_device_X4 rfl (kxY (hx_Yo hx_H0)) 5 (by decide) hmX5_device_101 rfl dX5_device_136 ?_
        refine hr_iload_n hC dX5_device_139 rfl 1 rfl ?_
        refine hr_iald hC (kxY3 (hx_Yo hx_H0)) dX5_device_140 ?_
        exact hr_ireti hC hr dX5_device_141
      · refine hr_bipush (v := -2) hC dX5_device_25 (by decide) ?_
        exact hr_ireti hC hr dX5_device_27
theorem hmX5_draft_12 : Cond.fieldLink RX5 12 "HeatBills" "now" "LHeatBills$House;" ∈ wsX5_draft := List.mem_of_getElem? (i := 1) rfl
theorem hmX5_draft_40 : Cond.fieldLink RX5 40 "HeatBills" "accounts" "LHeatBills$Accounts;" ∈ wsX5_draft := List.mem_of_getElem? (i := 3) rfl
theorem hmX5_draft_63 : Cond.fieldLink RX5 63 "HeatBills$House" "openYear" "LHeatBills$Year;" ∈ wsX5_draft := List.mem_of_getElem? (i := 2) rfl
theorem hmX5_draft_151 : Cond.fieldLink RX5 151 "HeatBills$Accounts" "bills" "[I" ∈ wsX5_draft := List.mem_of_getElem? (i := 4) rfl
theorem hiX5_draft_X5 : ∀ w ∈ wsX50, w ∈ wsX5_draft := fun _ h => List.mem_cons_of_mem _ (List.mem_append_left _ (List.mem_append_left _ (List.mem_append_left _ (List.mem_append_right _ h))))
theorem hiX5_draft_X2 : ∀ w ∈ wsX20, w ∈ wsX5_draft := fun _ h => List.mem_cons_of_mem _ (List.mem_append_left _ (List.mem_append_left _ (List.mem_append_right _ h)))
theorem hiX5_draft_X0 : ∀ w ∈ wsX00, w ∈ wsX5_draft := fun _ h => List.mem_cons_of_mem _ (List.mem_append_left _ (List.mem_append_right _ h))
def fX5_draft (n : Nat) (p1 : Int32) (p2 : Int32) (μ : hb_m) : Option (Int32 × hb_m) :=
bi (fX2_hasFlat n 0 p1 μ) (fun r5 m5 =>
if r5 = 0 then
(some ((-1 : Int32), m5))
else
(if p2 = 0 then
(bv (fX5_drawUpOpenYear n m5) (fun m32 =>
bv (fX0_splitByTenants n 0 (0 + 8) m32) (fun m50 =>
bi (fX5_tenantOf n p1 p2 m50) (fun r62 m62 =>
if ib r62 16 then
some ((rd m62 239 r62.toNatClampNeg), m62)
else none))))
else
(bi (fX4_hasMove n (0 + 8) p1 m5) (fun r23 m23 =>
if r23 = 0 then
(some ((-1 : Int32), m23))
else
(bv (fX5_drawUpOpenYear n m23) (fun m32 =>
bv (fX0_splitByTenants n 0 (0 + 8) m32) (fun m50 =>
bi (fX5_tenantOf n p1 p2 m50) (fun r62 m62 =>
if ib r62 16 then
some ((rd m62 239 r62.toNatClampNeg), m62)
else none))))))))
abbrev rmX5_draft : Room := { frames := 5, cells := 0, slots := 0, locals := 121 }
set_option maxRecDepth 100000 in
set_option maxHeartbeats 4000000 in
theorem tX5_draft {l : Launch} {D : va_G} {ad : Nat → Nat} {dA : Nat → ClassId} {t1 t2 : Nat} (hI : hb_I 241 ad) (n : Nat) (p1 : Int32) (p2 : Int32) (μ : hb_m) : hb_M (hb_Qi vwCl kdX 241 ad D dA) l yX5_draft wsX5_draft rmX5_draft vwCl kdX 241 ad D dA (tbX t1 t2) nwX [.ref (ad 228), .int p1, .int p2] μ (fX5_draft n p1 p2 μ) := by
  refine hb_start (cc := cX5_draft) (maxL := 3) (ret := (some .int)) (by decide) rfl hI (Nat.le_of_ble_eq_true rfl) [(0, .ref (ad 228)), (1, .int p1), (2, .int p2)] rfl ?_
  intro p e s m args below meth c hC hr
  rw [fX5_draft]
  refine hr_aload_n hC dX5_draft_0 rfl 0 rfl ?_
  refine hr_getR hC hiX5_draft_X5 rfl kx228 0 (by decide) hmX5_draft_12 rfl dX5_draft_1 ?_
  refine hr_iload_n hC dX5_draft_4 rfl 1 rfl ?_
  refine hr_callVi (As := [.int p1]) (k := 0) hC rfl (tX2_hasFlat (t1 := t1) (t2 := t2) hI n 0 hx_H0 p1 μ) (cwV 1 hC.1.2.2.2.2 gX5_draft_X2_hasFlat rfl rfl rfl (by decide +kernel) ⟨Nat.le_of_ble_eq_true rfl, Nat.le_of_ble_eq_true rfl⟩) (kxH hx_H0) rfl rfl rfl (Nat.le_of_ble_eq_true rfl) dX5_draft_5 (fun r5 m5 => ?_)
  refine hr_if_eq (tgt := 29) hC dX5_draft_8 (by decide) (fun _ => ?_) (fun _ => ?_)
  · refine hr_iconst (v := -1) hC dX5_draft_29 (by decide) ?_
    exact hr_ireti hC hr dX5_draft_30
  · refine hr_iload_n hC dX5_draft_11 rfl 2 rfl ?_
    refine hr_if_eq (tgt := 31) hC dX5_draft_12 (by decide) (fun _ => ?_) (fun _ => ?_)
    · refine hr_aload_n hC dX5_draft_31 rfl 0 rfl ?_
      refine hr_callVv (As := []) (k := 228) hC rfl (tX5_drawUpOpenYear (t1 := t1) (t2 := t2) hI n m5) (cwV 0 hC.1.2.2.2.2 gX5_draft_X5_drawUpOpenYear rfl rfl rfl (by decide +kernel) ⟨Nat.le_of_ble_eq_true rfl, Nat.le_of_ble_eq_true rfl⟩) kx228 rfl rfl rfl (Nat.le_of_ble_eq_true rfl) dX5_draft_32 (fun m32 => ?_)
      refine hr_aload_n hC dX5_draft_35 rfl 0 rfl ?_
      refine hr_getR hC hiX5_draft_X5 rfl kx228 5 (by decide) hmX5_draft_40 rfl dX5_draft_36 ?_
      refine hr_aload_n hC dX5_draft_39 rfl 0 rfl ?_
      refine hr_getR hC hiX5_draft_X5 rfl kx228 0 (by decide) hmX5_draft_12 rfl dX5_draft_40 ?_
      refine hr_aload_n hC dX5_draft_43 rfl 0 rfl ?_
      refine hr_getR hC hiX5_draft_X5 rfl kx228 0 (by decide) hmX5_draft_12 rfl dX5_draft_44 ?_
      refine hr_getR hC hiX5_draft_X2 rfl (kxH hx_H0) 9 (by decide) hmX5_draft_63 rfl dX5_draft_47 ?_
      refine hr_callVv (As := [.ref (ad 0), .ref (ad (0 + 8))]) (k := 235) hC rfl (tX0_splitByTenants (t1 := t1) (t2 := t2) hI n 0 hx_H0 (0 + 8) (hx_Yo hx_H0) m32) (cwV 2 hC.1.2.2.2.2 gX5_draft_X0_splitByTenants rfl rfl rfl (by decide +kernel) ⟨Nat.le_of_ble_eq_true rfl, Nat.le_of_ble_eq_true rfl⟩) kx235 rfl rfl rfl (Nat.le_of_ble_eq_true rfl) dX5_draft_50 (fun m50 => ?_)
      refine hr_aload_n hC dX5_draft_53 rfl 0 rfl ?_
      refine hr_getR hC hiX5_draft_X5 rfl kx228 5 (by decide) hmX5_draft_40 rfl dX5_draft_54 ?_
      refine hr_getR hC hiX5_draft_X0 rfl kx235 3 (by decide) hmX5_draft_151 rfl dX5_draft_57 ?_
      refine hr_iload_n hC dX5_draft_60 rfl 1 rfl ?_
      refine hr_iload_n hC dX5_draft_61 rfl 2 rfl ?_
      refine hr_callSi (As := [.int p1, .int p2]) hC rfl (tX5_tenantOf (t1 := t1) (t2 := t2) hI n p1 p2 m50) (va_cwS 2 hC.1.2.2.2.2 gX5_draft_X5_tenantOf rfl rfl rfl (by decide +kernel) ⟨Nat.le_of_ble_eq_true rfl, Nat.le_of_ble_eq_true rfl⟩) rfl (Nat.le_of_ble_eq_true rfl) dX5_draft_62 (fun r62 m62 => ?_)
      refine hr_iald hC kx239 dX5_draft_65 ?_
      exact hr_ireti hC hr dX5_draft_66
    · refine hr_aload_n hC dX5_draft_15 rfl 0 rfl ?_
      refine hr_getR hC hiX5_draft_X5 rfl kx228 0 (by decide) hmX5_draft_12 rfl dX5_draft_16 ?_
      refine hr_getR hC hiX5_draft_X2 rfl (kxH hx_H0) 9 (by decide) hmX5_draft_63 rfl dX5_draft_19 ?_
      refine hr_iload_n hC dX5_draft_22 rfl 1 rfl ?_
      refine hr_callVi (As := [.int p1]) (k := (0 + 8)) hC rfl (tX4_hasMove (t1 := t1) (t2 := t2) hI n (0 + 8) (hx_Yo hx_H0) p1 m5) (cwV 1 hC.1.2.2.2.2 gX5_draft_X4_hasMove rfl rfl rfl (by decide +kernel) ⟨Nat.le_of_ble_eq_true rfl, Nat.le_of_ble_eq_true rfl⟩) (kxY (hx_Yo hx_H0)) rfl rfl rfl (Nat.le_of_ble_eq_true rfl) dX5_draft_23 (fun r23 m23 => ?_)
      refine hr_if_ne (tgt := 31) hC dX5_draft_26 (by decide) (fun _ => ?_) (fun _ => ?_)
      · refine hr_iconst (v := -1) hC dX5_draft_29 (by decide) ?_
        exact hr_ireti hC hr dX5_draft_30
      · refine hr_aload_n hC dX5_draft_31 rfl 0 rfl ?_
        refine hr_callVv (As := []) (k := 228) hC rfl (tX5_drawUpOpenYear (t1 := t1) (t2 := t2) hI n m23) (cwV 0 hC.1.2.2.2.2 gX5_draft_X5_drawUpOpenYear rfl rfl rfl (by decide +kernel) ⟨Nat.le_of_ble_eq_true rfl, Nat.le_of_ble_eq_true rfl⟩) kx228 rfl rfl rfl (Nat.le_of_ble_eq_true rfl) dX5_draft_32 (fun m32 => ?_)
        refine hr_aload_n hC dX5_draft_35 rfl 0 rfl ?_
        refine hr_getR hC hiX5_draft_X5 rfl kx228 5 (by decide) hmX5_draft_40 rfl dX5_draft_36 ?_
        refine hr_aload_n hC dX5_draft_39 rfl 0 rfl ?_
        refine hr_getR hC hiX5_draft_X5 rfl kx228 0 (by decide) hmX5_draft_12 rfl dX5_draft_40 ?_
        refine hr_aload_n hC dX5_draft_43 rfl 0 rfl ?_
        refine hr_getR hC hiX5_draft_X5 rfl kx228 0 (by decide) hmX5_draft_12 rfl dX5_draft_44 ?_
        refine hr_getR hC hiX5_draft_X2 rfl (kxH hx_H0) 9 (by decide) hmX5_draft_63 rfl dX5_draft_47 ?_
        refine hr_callVv (As := [.ref (ad 0), .ref (ad (0 + 8))]) (k := 235) hC rfl (tX0_splitByTenants (t1 := t1) (t2 := t2) hI n 0 hx_H0 (0 + 8) (hx_Yo hx_H0) m32) (cwV 2 hC.1.2.2.2.2 gX5_draft_X0_splitByTenants rfl rfl rfl (by decide +kernel) ⟨Nat.le_of_ble_eq_true rfl, Nat.le_of_ble_eq_true rfl⟩) kx235 rfl rfl rfl (Nat.le_of_ble_eq_true rfl) dX5_draft_50 (fun m50 => ?_)
        refine hr_aload_n hC dX5_draft_53 rfl 0 rfl ?_
        refine hr_getR hC hiX5_draft_X5 rfl kx228 5 (by decide) hmX5_draft_40 rfl dX5_draft_54 ?_
        refine hr_getR hC hiX5_draft_X0 rfl kx235 3 (by decide) hmX5_draft_151 rfl dX5_draft_57 ?_
        refine hr_iload_n hC dX5_draft_60 rfl 1 rfl ?_
        refine hr_iload_n hC dX5_draft_61 rfl 2 rfl ?_
        refine hr_callSi (As := [.int p1, .int p2]) hC rfl (tX5_tenantOf (t1 := t1) (t2 := t2) hI n p1 p2 m50) (va_cwS 2 hC.1.2.2.2.2 gX5_draft_X5_tenantOf rfl rfl rfl (by decide +kernel) ⟨Nat.le_of_ble_eq_true rfl, Nat.le_of_ble_eq_true rfl⟩) rfl (Nat.le_of_ble_eq_true rfl) dX5_draft_62 (fun r62 m62 => ?_)
        refine hr_iald hC kx239 dX5_draft_65 ?_
        exact hr_ireti hC hr dX5_draft_66
theorem hmX5_bill_12 : Cond.fieldLink RX5 12 "HeatBills" "now" "LHeatBills$House;" ∈ wsX5_bill := List.mem_of_getElem? (i := 1) rfl
theorem hmX5_bill_212 : Cond.fieldLink RX5 212 "HeatBills$Year" "bills" "[I" ∈ wsX5_bill := List.mem_of_getElem? (i := 4) rfl
theorem hmX5_bill_208 : Cond.constant RX5 208 (1000000) ∈ wsX5_bill := List.mem_of_getElem? (i := 2) rfl
theorem hmX5_bill_209 : Cond.fieldLink RX5 209 "HeatBills$Year" "chargedAnew" "[I" ∈ wsX5_bill := List.mem_of_getElem? (i := 3) rfl
theorem hiX5_bill_X5 : ∀ w ∈ wsX50, w ∈ wsX5_bill := fun _ h => List.mem_cons_of_mem _ (List.mem_append_left _ (List.mem_append_left _ (List.mem_append_right _ h)))
theorem hiX5_bill_X4 : ∀ w ∈ wsX40, w ∈ wsX5_bill := fun _ h => List.mem_cons_of_mem _ (List.mem_append_left _ (List.mem_append_right _ h))
def fX5_bill (n : Nat) (p1 : Int32) (p2 : Int32) (p3 : Int32) (p4 : Int32) (μ : hb_m) : Option (Int32 × hb_m) :=
br (fX2_closedYear n 0 p1 μ) (fun m5 =>
some ((-1 : Int32), m5)) (fun r5 m5 =>
bi (fX2_hasFlat n 0 p2 m5) (fun r20 m20 =>
if r20 = 0 then
(some ((-1 : Int32), m20))
else
(if p3 = 0 then
(bi (fX5_tenantOf n p2 p3 m20) (fun r45 m45 =>
if p4 = 0 then
(if ib r45 16 then
some ((rd m45 (r5 + 4) r45.toNatClampNeg), m45)
else none)
else
(if ib r45 16 then
some (((1000000 : Int32) + (rd m45 (r5 + 5) r45.toNatClampNeg)), m45)
else none)))
else
(bi (fX4_hasMove n r5 p2 m20) (fun r35 m35 =>
if r35 = 0 then
(some ((-1 : Int32), m35))
else
(bi (fX5_tenantOf n p2 p3 m35) (fun r45 m45 =>
if p4 = 0 then
(if ib r45 16 then
some ((rd m45 (r5 + 4) r45.toNatClampNeg), m45)
else none)
else
(if ib r45 16 then
some (((1000000 : Int32) + (rd m45 (r5 + 5) r45.toNatClampNeg)), m45)
else none))))))))
abbrev rmX5_bill : Room := { frames := 1, cells := 0, slots := 0, locals := 21 }
set_option maxRecDepth 100000 in
set_option maxHeartbeats 4000000 in
theorem tX5_bill {l : Launch} {D : va_G} {ad : Nat → Nat} {dA : Nat → ClassId} {t1 t2 : Nat} (hI : hb_I 241 ad) (n : Nat) (p1 : Int32) (p2 : Int32) (p3 : Int32) (p4 : Int32) (μ : hb_m) : hb_M (hb_Qi vwCl kdX 241 ad D dA) l yX5_bill wsX5_bill rmX5_bill vwCl kdX 241 ad D dA (tbX t1 t2) nwX [.ref (ad 228), .int p1, .int p2, .int p3, .int p4] μ (fX5_bill n p1 p2 p3 p4 μ) := by
  refine hb_start (cc := cX5_bill) (maxL := 7) (ret := (some .int)) (by decide) rfl hI (Nat.le_of_ble_eq_true rfl) [(0, .ref (ad 228)), (1, .int p1), (2, .int p2), (3, .int p3), (4, .int p4)] rfl ?_
  intro p e s m args below meth c hC hr
  rw [fX5_bill]
  refine hr_aload_n hC dX5_bill_0 rfl 0 rfl ?_
  refine hr_getR hC hiX5_bill_X5 rfl kx228 0 (by decide) hmX5_bill_12 rfl dX5_bill_1 ?_
  refine hr_iload_n hC dX5_bill_4 rfl 1 rfl ?_
  refine hr_callVr (As := [.int p1]) (k := 0) hC rfl (tX2_closedYear (t1 := t1) (t2 := t2) hI n 0 hx_H0 p1 μ) (cwV 1 hC.1.2.2.2.2 gX5_bill_X2_closedYear rfl rfl rfl (by decide +kernel) ⟨Nat.le_of_ble_eq_true rfl, Nat.le_of_ble_eq_true rfl⟩) (kxH hx_H0) rfl rfl rfl (Nat.le_of_ble_eq_true rfl) dX5_bill_5 (fun m5 => ?_) (fun r5 m5 e5 => ?_)
  · refine hr_astoreN (lv' := [(5, .null), (0, .ref (ad 228)), (1, .int p1), (2, .int p2), (3, .int p3), (4, .int p4)]) hC dX5_bill_8 (by decide) rfl ?_
    refine hr_aloadN hC dX5_bill_10 0 rfl ?_
    refine hr_ifnullN (tgt := 26) hC dX5_bill_12 (by decide) ?_
    refine hr_iconst (v := -1) hC dX5_bill_26 (by decide) ?_
    exact hr_ireti hC hr dX5_bill_27
  · refine hr_astore (lv' := [(5, .ref (ad r5)), (0, .ref (ad 228)), (1, .int p1), (2, .int p2), (3, .int p3), (4, .int p4)]) hC dX5_bill_8 (by decide) rfl ?_
    refine hr_aload hC dX5_bill_10 0 rfl ?_
    refine hr_ifnull hC dX5_bill_12 ?_
    refine hr_aload_n hC dX5_bill_15 rfl 1 rfl ?_
    refine hr_getR hC hiX5_bill_X5 rfl kx228 0 (by decide) hmX5_bill_12 rfl dX5_bill_16 ?_
    refine hr_iload_n hC dX5_bill_19 rfl 3 rfl ?_
    refine hr_callVi (As := [.int p2]) (k := 0) hC rfl (tX2_hasFlat (t1 := t1) (t2 := t2) hI n 0 hx_H0 p2 m5) (cwV 1 hC.1.2.2.2.2 gX5_bill_X2_hasFlat rfl rfl rfl (by decide +kernel) ⟨Nat.le_of_ble_eq_true rfl, Nat.le_of_ble_eq_true rfl⟩) (kxH hx_H0) rfl rfl rfl (Nat.le_of_ble_eq_true rfl) dX5_bill_20 (fun r20 m20 => ?_)
    refine hr_if_ne (tgt := 28) hC dX5_bill_23 (by decide) (fun _ => ?_) (fun _ => ?_)
    · refine hr_iconst (v := -1) hC dX5_bill_26 (by decide) ?_
      exact hr_ireti hC hr dX5_bill_27
    · refine hr_iload_n hC dX5_bill_28 rfl 4 rfl ?_
      refine hr_if_eq (tgt := 43) hC dX5_bill_29 (by decide) (fun _ => ?_) (fun _ => ?_)
      · refine hr_iload_n hC dX5_bill_43 rfl 3 rfl ?_
        refine hr_iload_n hC dX5_bill_44 rfl 4 rfl ?_
        refine hr_callSi (As := [.int p2, .int p3]) hC rfl (tX5_tenantOf (t1 := t1) (t2 := t2) hI n p2 p3 m20) (va_cwS 2 hC.1.2.2.2.2 gX5_bill_X5_tenantOf rfl rfl rfl (by decide +kernel) ⟨Nat.le_of_ble_eq_true rfl, Nat.le_of_ble_eq_true rfl⟩) rfl (Nat.le_of_ble_eq_true rfl) dX5_bill_45 (fun r45 m45 => ?_)
        refine hr_istore (lv' := [(6, .int r45), (5, .ref (ad r5)), (0, .ref (ad 228)), (1, .int p1), (2, .int p2), (3, .int p3), (4, .int p4)]) hC dX5_bill_48 (by decide) rfl ?_
        refine hr_iload hC dX5_bill_50 6 rfl ?_
        refine hr_if_eq (tgt := 69) hC dX5_bill_52 (by decide) (fun _ => ?_) (fun _ => ?_)
        · refine hr_aload hC dX5_bill_69 1 rfl ?_
          refine hr_getR hC hiX5_bill_X4 rfl (kxY (vX2_closedYear hx_H0 e5)) 6 (by decide) hmX5_bill_212 rfl dX5_bill_71 ?_
          refine hr_iload hC dX5_bill_74 0 rfl ?_
          refine hr_iald hC (kxY4 (vX2_closedYear hx_H0 e5)) dX5_bill_76 ?_
          exact hr_ireti hC hr dX5_bill_77
        · refine hr_ldc (v := 1000000) hC dX5_bill_55 hmX5_bill_208 ?_
          refine hr_aload hC dX5_bill_57 1 rfl ?_
          refine hr_getR hC hiX5_bill_X4 rfl (kxY (vX2_closedYear hx_H0 e5)) 7 (by decide) hmX5_bill_209 rfl dX5_bill_59 ?_
          refine hr_iload hC dX5_bill_62 0 rfl ?_
          refine hr_iald hC (kxY5 (vX2_closedYear hx_H0 e5)) dX5_bill_64 ?_
          refine hr_iadd hC dX5_bill_65 ?_
          refine hr_goto (tgt := 77) hC dX5_bill_66 (by decide) ?_
          exact hr_ireti hC hr dX5_bill_77
      · refine hr_aload hC dX5_bill_32 0 rfl ?_
        refine hr_iload_n hC dX5_bill_34 rfl 3 rfl ?_
        refine hr_callVi (As := [.int p2]) (k := r5) hC rfl (tX4_hasMove (t1 := t1) (t2 := t2) hI n r5 (vX2_closedYear hx_H0 e5) p2 m20) (cwV 1 hC.1.2.2.2.2 gX5_bill_X4_hasMove rfl rfl rfl (by decide +kernel) ⟨Nat.le_of_ble_eq_true rfl, Nat.le_of_ble_eq_true rfl⟩) (kxY (vX2_closedYear hx_H0 e5)) rfl rfl rfl (Nat.le_of_ble_eq_true rfl) dX5_bill_35 (fun r35 m35 => ?_)
        refine hr_if_ne (tgt := 43) hC dX5_bill_38 (by decide) (fun _ => ?_) (fun _ => ?_)
        · refine hr_iconst (v := -1) hC dX5_bill_41 (by decide) ?_
          exact hr_ireti hC hr dX5_bill_42
        · refine hr_iload_n hC dX5_bill_43 rfl 3 rfl ?_
          refine hr_iload_n hC dX5_bill_44 rfl 4 rfl ?_
          refine hr_callSi (As := [.int p2, .int p3]) hC rfl (tX5_tenantOf (t1 := t1) (t2 := t2) hI n p2 p3 m35) (va_cwS 2 hC.1.2.2.2.2 gX5_bill_X5_tenantOf rfl rfl rfl (by decide +kernel) ⟨Nat.le_of_ble_eq_true rfl, Nat.le_of_ble_eq_true rfl⟩) rfl (Nat.le_of_ble_eq_true rfl) dX5_bill_45 (fun r45 m45 => ?_)
          refine hr_istore (lv' := [(6, .int r45), (5, .ref (ad r5)), (0, .ref (ad 228)), (1, .int p1), (2, .int p2), (3, .int p3), (4, .int p4)]) hC dX5_bill_48 (by decide) rfl ?_
          refine hr_iload hC dX5_bill_50 6 rfl ?_
          refine hr_if_eq (tgt := 69) hC dX5_bill_52 (by decide) (fun _ => ?_) (fun _ => ?_)
          · refine hr_aload hC dX5_bill_69 1 rfl ?_
            refine hr_getR hC hiX5_bill_X4 rfl (kxY (vX2_closedYear hx_H0 e5)) 6 (by decide) hmX5_bill_212 rfl dX5_bill_71 ?_
            refine hr_iload hC dX5_bill_74 0 rfl ?_
            refine hr_iald hC (kxY4 (vX2_closedYear hx_H0 e5)) dX5_bill_76 ?_
            exact hr_ireti hC hr dX5_bill_77
          · refine hr_ldc (v := 1000000) hC dX5_bill_55 hmX5_bill_208 ?_
            refine hr_aload hC dX5_bill_57 1 rfl ?_
            refine hr_getR hC hiX5_bill_X4 rfl (kxY (vX2_closedYear hx_H0 e5)) 7 (by decide) hmX5_bill_209 rfl dX5_bill_59 ?_
            refine hr_iload hC dX5_bill_62 0 rfl ?_
            refine hr_iald hC (kxY5 (vX2_closedYear hx_H0 e5)) dX5_bill_64 ?_
            refine hr_iadd hC dX5_bill_65 ?_
            refine hr_goto (tgt := 77) hC dX5_bill_66 (by decide) ?_
            exact hr_ireti hC hr dX5_bill_77
theorem hmX5_units_12 : Cond.fieldLink RX5 12 "HeatBills" "now" "LHeatBills$House;" ∈ wsX5_units := List.mem_of_getElem? (i := 1) rfl
theorem hmX5_units_101 : Cond.fieldLink RX5 101 "HeatBills$Year" "deviceUnits" "[I" ∈ wsX5_units := List.mem_of_getElem? (i := 2) rfl
theorem hiX5_units_X5 : ∀ w ∈ wsX50, w ∈ wsX5_units := fun _ h => List.mem_cons_of_mem _ (List.mem_append_left _ (List.mem_append_left _ (List.mem_append_right _ h)))
theorem hiX5_units_X4 : ∀ w ∈ wsX40, w ∈ wsX5_units := fun _ h => List.mem_cons_of_mem _ (List.mem_append_left _ (List.mem_append_right _ h))
def fX5_units (n : Nat) (p1 : Int32) (p2 : Int32) (μ : hb_m) : Option (Int32 × hb_m) :=
br (fX2_closedYear n 0 p1 μ) (fun m5 =>
some ((-1 : Int32), m5)) (fun r5 m5 =>
bi (fX4_hasDevice n r5 p2 m5) (fun r15 m15 =>
if r15 = 0 then
(some ((-1 : Int32), m15))
else
(if ib p2 20 then
some ((rd m15 (r5 + 3) p2.toNatClampNeg), m15)
else none)))
abbrev rmX5_units : Room := { frames := 1, cells := 0, slots := 0, locals := 21 }
set_option maxRecDepth 100000 in
set_option maxHeartbeats 4000000 in
theorem tX5_units {l : Launch} {D : va_G} {ad : Nat → Nat} {dA : Nat → ClassId} {t1 t2 : Nat} (hI : hb_I 241 ad) (n : Nat) (p1 : Int32) (p2 : Int32) (μ : hb_m) : hb_M (hb_Qi vwCl kdX 241 ad D dA) l yX5_units wsX5_units rmX5_units vwCl kdX 241 ad D dA (tbX t1 t2) nwX [.ref (ad 228), .int p1, .int p2] μ (fX5_units n p1 p2 μ) := by
  refine hb_start (cc := cX5_units) (maxL := 4) (ret := (some .int)) (by decide) rfl hI (Nat.le_of_ble_eq_true rfl) [(0, .ref (ad 228)), (1, .int p1), (2, .int p2)] rfl ?_
  intro p e s m args below meth c hC hr
  rw [fX5_units]
  refine hr_aload_n hC dX5_units_0 rfl 0 rfl ?_
  refine hr_getR hC hiX5_units_X5 rfl kx228 0 (by decide) hmX5_units_12 rfl dX5_units_1 ?_
  refine hr_iload_n hC dX5_units_4 rfl 1 rfl ?_
  refine hr_callVr (As := [.int p1]) (k := 0) hC rfl (tX2_closedYear (t1 := t1) (t2 := t2) hI n 0 hx_H0 p1 μ) (cwV 1 hC.1.2.2.2.2 gX5_units_X2_closedYear rfl rfl rfl (by decide +kernel) ⟨Nat.le_of_ble_eq_true rfl, Nat.le_of_ble_eq_true rfl⟩) (kxH hx_H0) rfl rfl rfl (Nat.le_of_ble_eq_true rfl) dX5_units_5 (fun m5 => ?_) (fun r5 m5 e5 => ?_)
  · refine hr_astoreN_n (lv' := [(3, .null), (0, .ref (ad 228)), (1, .int p1), (2, .int p2)]) hC dX5_units_8 rfl (by decide) rfl ?_
    refine hr_aloadN_n hC dX5_units_9 rfl 0 rfl ?_
    refine hr_ifnullN (tgt := 21) hC dX5_units_10 (by decide) ?_
    refine hr_iconst (v := -1) hC dX5_units_21 (by decide) ?_
    exact hr_ireti hC hr dX5_units_22
  · refine hr_astore_n (lv' := [(3, .ref (ad r5)), (0, .ref (ad 228)), (1, .int p1), (2, .int p2)]) hC dX5_units_8 rfl (by decide) rfl ?_
    refine hr_aload_n hC dX5_units_9 rfl 0 rfl ?_
    refine hr_ifnull hC dX5_units_10 ?_
    refine hr_aload_n hC dX5_units_13 rfl 0 rfl ?_
    refine hr_iload_n hC dX5_units_14 rfl 3 rfl ?_
    refine hr_callVi (As := [.int p2]) (k := r5) hC rfl (tX4_hasDevice (t1 := t1) (t2 := t2) hI n r5 (vX2_closedYear hx_H0 e5) p2 m5) (cwV 1 hC.1.2.2.2.2 gX5_units_X4_hasDevice rfl rfl rfl (by decide +kernel) ⟨Nat.le_of_ble_eq_true rfl, Nat.le_of_ble_eq_true rfl⟩) (kxY (vX2_closedYear hx_H0 e5)) rfl rfl rfl (Nat.le_of_ble_eq_true rfl) dX5_units_15 (fun r15 m15 => ?_)
    refine hr_if_ne (tgt := 23) hC dX5_units_18 (by decide) (fun _ => ?_) (fun _ => ?_)
    · refine hr_iconst (v := -1) hC dX5_units_21 (by decide) ?_
      exact hr_ireti hC hr dX5_units_22
    · refine hr_aload_n hC dX5_units_23 rfl 0 rfl ?_
      refine hr_getR hC hiX5_units_X4 rfl (kxY (vX2_closedYear hx_H0 e5)) 5 (by decide) hmX5_units_101 rfl dX5_units_24 ?_
      refine hr_iload_n hC dX5_units_27 rfl 3 rfl ?_
      refine hr_iald hC (kxY3 (vX2_closedYear hx_H0 e5)) dX5_units_28 ?_
      exact hr_ireti hC hr dX5_units_29
theorem hmX0_flatsAheadOf_18 : Cond.fieldLink RX0 18 "HeatBills$Accounts" "unitCosts" "[I" ∈ wsX0_flatsAheadOf := List.mem_of_getElem? (i := 1) rfl
theorem hiX0_flatsAheadOf_X0 : ∀ w ∈ wsX00, w ∈ wsX0_flatsAheadOf := fun _ h => List.mem_cons_of_mem _ (List.mem_append_right _ h)
def lX0_flatsAheadOf_5 (n : Nat) (p1 : Int32) (p2 : Int32) (k : Int32 → Int32 → hb_m → Option (Int32 × hb_m)) : Nat → Int32 → Int32 → hb_m → Option (Int32 × hb_m)
  | 0, _, _, _ => none
  | f + 1, x4, x3, μ => if p2 ≤ x4 then
(k x4 x3 μ)
else
(if ib x4 8 then
if ib p1 8 then
if (rd μ 238 x4.toNatClampNeg) = (rd μ 238 p1.toNatClampNeg) then
(if p1 ≤ x4 then
(if ib x4 8 then
if ib p1 8 then
if (rd μ 238 p1.toNatClampNeg) < (rd μ 238 x4.toNatClampNeg) then
(lX0_flatsAheadOf_5 n p1 p2 k f (x4 + (1 : Int32)) (x3 + (1 : Int32)) μ)
else
(lX0_flatsAheadOf_5 n p1 p2 k f (x4 + (1 : Int32)) x3 μ)
else none
else none)
else
(if ib x4 8 then
if ib p1 8 then
if (rd μ 238 p1.toNatClampNeg) < (rd μ 238 x4.toNatClampNeg) then
(lX0_flatsAheadOf_5 n p1 p2 k f (x4 + (1 : Int32)) (x3 + (1 : Int32)) μ)
else
(lX0_flatsAheadOf_5 n p1 p2 k f (x4 + (1 : Int32)) (x3 + (1 : Int32)) μ)
else none
else none))
else
(if ib x4 8 then
if ib p1 8 then
if (rd μ 238 p1.toNatClampNeg) < (rd μ 238 x4.toNatClampNeg) then
(lX0_flatsAheadOf_5 n p1 p2 k f (x4 + (1 : Int32)) (x3 + (1 : Int32)) μ)
else
(lX0_flatsAheadOf_5 n p1 p2 k f (x4 + (1 : Int32)) x3 μ)
else none
else none)
else none
else none)
def fX0_flatsAheadOf (n : Nat) (p1 : Int32) (p2 : Int32) (μ : hb_m) : Option (Int32 × hb_m) :=
lX0_flatsAheadOf_5 n p1 p2 (fun x4_5 x3_5 m5 =>
some (x3_5, m5)) n (0 : Int32) (0 : Int32) μ
abbrev rmX0_flatsAheadOf : Room := { frames := 0, cells := 0, slots := 0, locals := 0 }
set_option maxRecDepth 100000 in
set_option maxHeartbeats 4000000 in
theorem tX0_flatsAheadOf {l : Launch} {D : va_G} {ad : Nat → Nat} {dA : Nat → ClassId} {t1 t2 : Nat} (hI : hb_I 241 ad) (n : Nat) (p1 : Int32) (p2 : Int32) (μ : hb_m) : hb_M (hb_Qi vwCl kdX 241 ad D dA) l yX0_flatsAheadOf wsX0_flatsAheadOf rmX0_flatsAheadOf vwCl kdX 241 ad D dA (tbX t1 t2) nwX [.ref (ad 235), .int p1, .int p2] μ (fX0_flatsAheadOf n p1 p2 μ) := by
  refine hb_start (cc := cX0_flatsAheadOf) (maxL := 6) (ret := (some .int)) (by decide) rfl hI (Nat.le_of_ble_eq_true rfl) [(0, .ref (ad 235)), (1, .int p1), (2, .int p2)] rfl ?_
  intro p e s m args below meth c hC hr
  have L5 : ∀ (k : Int32 → Int32 → hb_m → Option (Int32 × hb_m)) (hk : ∀ (x4 : Int32) (x3 : Int32) (μ : hb_m), hb_V p l e rmX0_flatsAheadOf s m args below meth c 6 vwCl kdX 241 ad D dA (hb_Qi vwCl kdX 241 ad D dA) μ 70 [(4, .int x4), (3, .int x3), (0, .ref (ad 235)), (1, .int p1), (2, .int p2)] [] (k x4 x3 μ)) (f : Nat) (x4 : Int32) (x3 : Int32) (μ : hb_m), hb_V p l e rmX0_flatsAheadOf s m args below meth c 6 vwCl kdX 241 ad D dA (hb_Qi vwCl kdX 241 ad D dA) μ 5 [(4, .int x4), (3, .int x3), (0, .ref (ad 235)), (1, .int p1), (2, .int p2)] [] (lX0_flatsAheadOf_5 n p1 p2 k f x4 x3 μ) := by
    intro k hk f
    induction f with
    | zero => intro x4 x3 μ; rw [lX0_flatsAheadOf_5]; exact hr_none
    | succ f ih =>
      intro x4 x3 μ
      rw [lX0_flatsAheadOf_5]
      refine hr_iload hC dX0_flatsAheadOf_5 0 rfl ?_
      refine hr_iload_n hC dX0_flatsAheadOf_7 rfl 4 rfl ?_
      refine hr_icmp_ge (tgt := 70) hC dX0_flatsAheadOf_8 (by decide) (fun _ => ?_) (fun _ => ?_)
      · refine hr_sub (lv' := [(4, .int x4), (3, .int x3), (0, .ref (ad 235)), (1, .int p1), (2, .int p2)]) [0, 1, 2, 3, 4] rfl ?_
        exact hk _ _ _
      · refine hr_aload_n hC dX0_flatsAheadOf_11 rfl 2 rfl ?_
        refine hr_getR hC hiX0_flatsAheadOf_X0 rfl kx235 2 (by decide) hmX0_flatsAheadOf_18 rfl dX0_flatsAheadOf_12 ?_
        refine hr_iload hC dX0_flatsAheadOf_15 0 rfl ?_
        refine hr_iald hC kx238 dX0_flatsAheadOf_17 ?_
        refine hr_aload_n hC dX0_flatsAheadOf_18 rfl 2 rfl ?_
        refine hr_getR hC hiX0_flatsAheadOf_X0 rfl kx235 2 (by decide) hmX0_flatsAheadOf_18 rfl dX0_flatsAheadOf_19 ?_
        refine hr_iload_n hC dX0_flatsAheadOf_22 rfl 3 rfl ?_
        refine hr_iald hC kx238 dX0_flatsAheadOf_23 ?_
        refine hr_icmp_ne (tgt := 37) hC dX0_flatsAheadOf_24 (by decide) (fun _ => ?_) (fun _ => ?_)
        · refine hr_iload hC dX0_flatsAheadOf_27 0 rfl ?_
          refine hr_iload_n hC dX0_flatsAheadOf_29 rfl 3 rfl ?_
          refine hr_icmp_ge (tgt := 37) hC dX0_flatsAheadOf_30 (by decide) (fun _ => ?_) (fun _ => ?_)
          · refine hr_iconst (v := 0) hC dX0_flatsAheadOf_37 (by decide) ?_
            refine hr_istore (lv' := [(5, .int (0 : Int32)), (4, .int x4), (3, .int x3), (0, .ref (ad 235)), (1, .int p1), (2, .int p2)]) hC dX0_flatsAheadOf_38 (by decide) rfl ?_
            refine hr_aload_n hC dX0_flatsAheadOf_40 rfl 3 rfl ?_
            refine hr_getR hC hiX0_flatsAheadOf_X0 rfl kx235 2 (by decide) hmX0_flatsAheadOf_18 rfl dX0_flatsAheadOf_41 ?_
            refine hr_iload hC dX0_flatsAheadOf_44 1 rfl ?_
            refine hr_iald hC kx238 dX0_flatsAheadOf_46 ?_
            refine hr_aload_n hC dX0_flatsAheadOf_47 rfl 3 rfl ?_
            refine hr_getR hC hiX0_flatsAheadOf_X0 rfl kx235 2 (by decide) hmX0_flatsAheadOf_18 rfl dX0_flatsAheadOf_48 ?_
            refine hr_iload_n hC dX0_flatsAheadOf_51 rfl 4 rfl ?_
            refine hr_iald hC kx238 dX0_flatsAheadOf_52 ?_
            refine hr_icmp_gt (tgt := 61) hC dX0_flatsAheadOf_53 (by decide) (fun _ => ?_) (fun _ => ?_)
            · refine hr_iinc (v := (x3 + (1 : Int32))) (lv' := [(3, .int (x3 + (1 : Int32))), (5, .int (0 : Int32)), (4, .int x4), (0, .ref (ad 235)), (1, .int p1), (2, .int p2)]) (kx := 2) hC dX0_flatsAheadOf_61 rfl rfl (by decide) rfl ?_
              refine hr_iinc (v := (x4 + (1 : Int32))) (lv' := [(4, .int (x4 + (1 : Int32))), (3, .int (x3 + (1 : Int32))), (5, .int (0 : Int32)), (0, .ref (ad 235)), (1, .int p1), (2, .int p2)]) (kx := 2) hC dX0_flatsAheadOf_64 rfl rfl (by decide) rfl ?_
              refine hr_goto (tgt := 5) hC dX0_flatsAheadOf_67 (by decide) ?_
              refine hr_sub (lv' := [(4, .int (x4 + (1 : Int32))), (3, .int (x3 + (1 : Int32))), (0, .ref (ad 235)), (1, .int p1), (2, .int p2)]) [0, 1, 3, 4, 5] rfl ?_
              exact ih _ _ _
            · refine hr_iload hC dX0_flatsAheadOf_56 0 rfl ?_
              refine hr_if_eqT (tgt := 64) hC dX0_flatsAheadOf_58 (by decide) (by decide) ?_
              refine hr_iinc (v := (x4 + (1 : Int32))) (lv' := [(4, .int (x4 + (1 : Int32))), (5, .int (0 : Int32)), (3, .int x3), (0, .ref (ad 235)), (1, .int p1), (2, .int p2)]) (kx := 1) hC dX0_flatsAheadOf_64 rfl rfl (by decide) rfl ?_
              refine hr_goto (tgt := 5) hC dX0_flatsAheadOf_67 (by decide) ?_
              refine hr_sub (lv' := [(4, .int (x4 + (1 : Int32))), (3, .int x3), (0, .ref (ad 235)), (1, .int p1), (2, .int p2)]) [0, 2, 3, 4, 5] rfl ?_
              exact ih _ _ _
          · refine hr_iconst (v := 1) hC dX0_flatsAheadOf_33 (by decide) ?_
            refine hr_goto (tgt := 38) hC dX0_flatsAheadOf_34 (by decide) ?_
            refine hr_istore (lv' := [(5, .int (1 : Int32)), (4, .int x4), (3, .int x3), (0, .ref (ad 235)), (1, .int p1), (2, .int p2)]) hC dX0_flatsAheadOf_38 (by decide) rfl ?_
            refine hr_aload_n hC dX0_flatsAheadOf_40 rfl 3 rfl ?_
            refine hr_getR hC hiX0_flatsAheadOf_X0 rfl kx235 2 (by decide) hmX0_flatsAheadOf_18 rfl dX0_flatsAheadOf_41 ?_
            refine hr_iload hC dX0_flatsAheadOf_44 1 rfl ?_
            refine hr_iald hC kx238 dX0_flatsAheadOf_46 ?_
            refine hr_aload_n hC dX0_flatsAheadOf_47 rfl 3 rfl ?_
            refine hr_getR hC hiX0_flatsAheadOf_X0 rfl kx235 2 (by decide) hmX0_flatsAheadOf_18 rfl dX0_flatsAheadOf_48 ?_
            refine hr_iload_n hC dX0_flatsAheadOf_51 rfl 4 rfl ?_
            refine hr_iald hC kx238 dX0_flatsAheadOf_52 ?_
            refine hr_icmp_gt (tgt := 61) hC dX0_flatsAheadOf_53 (by decide) (fun _ => ?_) (fun _ => ?_)
            · refine hr_iinc (v := (x3 + (1 : Int32))) (lv' := [(3, .int (x3 + (1 : Int32))), (5, .int (1 : Int32)), (4, .int x4), (0, .ref (ad 235)), (1, .int p1), (2, .int p2)]) (kx := 2) hC dX0_flatsAheadOf_61 rfl rfl (by decide) rfl ?_
              refine hr_iinc (v := (x4 + (1 : Int32))) (lv' := [(4, .int (x4 + (1 : Int32))), (3, .int (x3 + (1 : Int32))), (5, .int (1 : Int32)), (0, .ref (ad 235)), (1, .int p1), (2, .int p2)]) (kx := 2) hC dX0_flatsAheadOf_64 rfl rfl (by decide) rfl ?_
              refine hr_goto (tgt := 5) hC dX0_flatsAheadOf_67 (by decide) ?_
              refine hr_sub (lv' := [(4, .int (x4 + (1 : Int32))), (3, .int (x3 + (1 : Int32))), (0, .ref (ad 235)), (1, .int p1), (2, .int p2)]) [0, 1, 3, 4, 5] rfl ?_
              exact ih _ _ _
            · refine hr_iload hC dX0_flatsAheadOf_56 0 rfl ?_
              refine hr_if_eqF (tgt := 64) hC dX0_flatsAheadOf_58 (by decide) (by decide) ?_
              refine hr_iinc (v := (x3 + (1 : Int32))) (lv' := [(3, .int (x3 + (1 : Int32))), (5, .int (1 : Int32)), (4, .int x4), (0, .ref (ad 235)), (1, .int p1), (2, .int p2)]) (kx := 2) hC dX0_flatsAheadOf_61 rfl rfl (by decide) rfl ?_
              refine hr_iinc (v := (x4 + (1 : Int32))) (lv' := [(4, .int (x4 + (1 : Int32))), (3, .int (x3 + (1 : Int32))), (5, .int (1 : Int32)), (0, .ref (ad 235)), (1, .int p1), (2, .int p2)]) (kx := 2) hC dX0_flatsAheadOf_64 rfl rfl (by decide) rfl ?_
              refine hr_goto (tgt := 5) hC dX0_flatsAheadOf_67 (by decide) ?_
              refine hr_sub (lv' := [(4, .int (x4 + (1 : Int32))), (3, .int (x3 + (1 : Int32))), (0, .ref (ad 235)), (1, .int p1), (2, .int p2)]) [0, 1, 3, 4, 5] rfl ?_
              exact ih _ _ _
        · refine hr_iconst (v := 0) hC dX0_flatsAheadOf_37 (by decide) ?_
          refine hr_istore (lv' := [(5, .int (0 : Int32)), (4, .int x4), (3, .int x3), (0, .ref (ad 235)), (1, .int p1), (2, .int p2)]) hC dX0_flatsAheadOf_38 (by decide) rfl ?_
          refine hr_aload_n hC dX0_flatsAheadOf_40 rfl 3 rfl ?_
          refine hr_getR hC hiX0_flatsAheadOf_X0 rfl kx235 2 (by decide) hmX0_flatsAheadOf_18 rfl dX0_flatsAheadOf_41 ?_
          refine hr_iload hC dX0_flatsAheadOf_44 1 rfl ?_
          refine hr_iald hC kx238 dX0_flatsAheadOf_46 ?_
          refine hr_aload_n hC dX0_flatsAheadOf_47 rfl 3 rfl ?_
          refine hr_getR hC hiX0_flatsAheadOf_X0 rfl kx235 2 (by decide) hmX0_flatsAheadOf_18 rfl dX0_flatsAheadOf_48 ?_
          refine hr_iload_n hC dX0_flatsAheadOf_51 rfl 4 rfl ?_
          refine hr_iald hC kx238 dX0_flatsAheadOf_52 ?_
          refine hr_icmp_gt (tgt := 61) hC dX0_flatsAheadOf_53 (by decide) (fun _ => ?_) (fun _ => ?_)
          · refine hr_iinc (v := (x3 + (1 : Int32))) (lv' := [(3, .int (x3 + (1 : Int32))), (5, .int (0 : Int32)), (4, .int x4), (0, .ref (ad 235)), (1, .int p1), (2, .int p2)]) (kx := 2) hC dX0_flatsAheadOf_61 rfl rfl (by decide) rfl ?_
            refine hr_iinc (v := (x4 + (1 : Int32))) (lv' := [(4, .int (x4 + (1 : Int32))), (3, .int (x3 + (1 : Int32))), (5, .int (0 : Int32)), (0, .ref (ad 235)), (1, .int p1), (2, .int p2)]) (kx := 2) hC dX0_flatsAheadOf_64 rfl rfl (by decide) rfl ?_
            refine hr_goto (tgt := 5) hC dX0_flatsAheadOf_67 (by decide) ?_
            refine hr_sub (lv' := [(4, .int (x4 + (1 : Int32))), (3, .int (x3 + (1 : Int32))), (0, .ref (ad 235)), (1, .int p1), (2, .int p2)]) [0, 1, 3, 4, 5] rfl ?_
            exact ih _ _ _
          · refine hr_iload hC dX0_flatsAheadOf_56 0 rfl ?_
            refine hr_if_eqT (tgt := 64) hC dX0_flatsAheadOf_58 (by decide) (by decide) ?_
            refine hr_iinc (v := (x4 + (1 : Int32))) (lv' := [(4, .int (x4 + (1 : Int32))), (5, .int (0 : Int32)), (3, .int x3), (0, .ref (ad 235)), (1, .int p1), (2, .int p2)]) (kx := 1) hC dX0_flatsAheadOf_64 rfl rfl (by decide) rfl ?_
            refine hr_goto (tgt := 5) hC dX0_flatsAheadOf_67 (by decide) ?_
            refine hr_sub (lv' := [(4, .int (x4 + (1 : Int32))), (3, .int x3), (0, .ref (ad 235)), (1, .int p1), (2, .int p2)]) [0, 2, 3, 4, 5] rfl ?_
            exact ih _ _ _
  rw [fX0_flatsAheadOf]
  refine hr_iconst (v := 0) hC dX0_flatsAheadOf_0 (by decide) ?_
  refine hr_istore_n (lv' := [(3, .int (0 : Int32)), (0, .ref (ad 235)), (1, .int p1), (2, .int p2)]) hC dX0_flatsAheadOf_1 rfl (by decide) rfl ?_
  refine hr_iconst (v := 0) hC dX0_flatsAheadOf_2 (by decide) ?_
  refine hr_istore (lv' := [(4, .int (0 : Int32)), (3, .int (0 : Int32)), (0, .ref (ad 235)), (1, .int p1), (2, .int p2)]) hC dX0_flatsAheadOf_3 (by decide) rfl ?_
  refine hr_sub (lv' := [(4, .int (0 : Int32)), (3, .int (0 : Int32)), (0, .ref (ad 235)), (1, .int p1), (2, .int p2)]) [0, 1, 2, 3, 4] rfl ?_
  refine L5 _ (fun x4_5 x3_5 m5 => ?_) _ _ _ _
  refine hr_iload_n hC dX0_flatsAheadOf_70 rfl 1 rfl ?_
  exact hr_ireti hC hr dX0_flatsAheadOf_71
theorem hmX5_greatest_12 : Cond.fieldLink RX5 12 "HeatBills" "now" "LHeatBills$House;" ∈ wsX5_greatest := List.mem_of_getElem? (i := 1) rfl
theorem hmX5_greatest_44 : Cond.fieldLink RX5 44 "HeatBills$House" "flatCount" "I" ∈ wsX5_greatest := List.mem_of_getElem? (i := 2) rfl
theorem hmX5_greatest_40 : Cond.fieldLink RX5 40 "HeatBills" "accounts" "LHeatBills$Accounts;" ∈ wsX5_greatest := List.mem_of_getElem? (i := 3) rfl
theorem hiX5_greatest_X5 : ∀ w ∈ wsX50, w ∈ wsX5_greatest := fun _ h => List.mem_cons_of_mem _ (List.mem_append_left _ (List.mem_append_left _ (List.mem_append_left _ (List.mem_append_right _ h))))
theorem hiX5_greatest_X2 : ∀ w ∈ wsX20, w ∈ wsX5_greatest := fun _ h => List.mem_cons_of_mem _ (List.mem_append_left _ (List.mem_append_left _ (List.mem_append_right _ h)))
def lX5_greatest_13 (n : Nat) (p1 : Int32) (k : Int32 → hb_m → Option (Int32 × hb_m)) : Nat → Int32 → hb_m → Option (Int32 × hb_m)
  | 0, _, _ => none
  | f + 1, x2, μ => if (rd μ 0 0) ≤ x2 then
(k x2 μ)
else
(bi (fX0_flatsAheadOf n x2 (rd μ 0 0) μ) (fun r36 m36 =>
if r36 = p1 then
(some (x2, m36))
else
(lX5_greatest_13 n p1 k f (x2 + (1 : Int32)) m36)))
def fX5_greatest (n : Nat) (p1 : Int32) (μ : hb_m) : Option (Int32 × hb_m) :=
if 0 ≤ p1 then
(bv (fX5_drawUpOpenYear n μ) (fun m8 =>
lX5_greatest_13 n p1 (fun x2_13 m13 =>
some ((-5 : Int32), m13)) n (0 : Int32) m8))
else
(some ((-2 : Int32), μ))
abbrev rmX5_greatest : Room := { frames := 5, cells := 0, slots := 0, locals := 121 }
set_option maxRecDepth 100000 in
set_option maxHeartbeats 4000000 in
theorem tX5_greatest {l : Launch} {D : va_G} {ad : Nat → Nat} {dA : Nat → ClassId} {t1 t2 : Nat} (hI : hb_I 241 ad) (n : Nat) (p1 : Int32) (μ : hb_m) : hb_M (hb_Qi vwCl kdX 241 ad D dA) l yX5_greatest wsX5_greatest rmX5_greatest vwCl kdX 241 ad D dA (tbX t1 t2) nwX [.ref (ad 228), .int p1] μ (fX5_greatest n p1 μ) := by
  refine hb_start (cc := cX5_greatest) (maxL := 3) (ret := (some .int)) (by decide) rfl hI (Nat.le_of_ble_eq_true rfl) [(0, .ref (ad 228)), (1, .int p1)] rfl ?_
  intro p e s m args below meth c hC hr
  have L13 : ∀ (k : Int32 → hb_m → Option (Int32 × hb_m)) (hk : ∀ (x2 : Int32) (μ : hb_m), hb_V p l e rmX5_greatest s m args below meth c 3 vwCl kdX 241 ad D dA (hb_Qi vwCl kdX 241 ad D dA) μ 51 [(2, .int x2), (0, .ref (ad 228)), (1, .int p1)] [] (k x2 μ)) (f : Nat) (x2 : Int32) (μ : hb_m), hb_V p l e rmX5_greatest s m args below meth c 3 vwCl kdX 241 ad D dA (hb_Qi vwCl kdX 241 ad D dA) μ 13 [(2, .int x2), (0, .ref (ad 228)), (1, .int p1)] [] (lX5_greatest_13 n p1 k f x2 μ) := by
    intro k hk f
    induction f with
    | zero => intro x2 μ; rw [lX5_greatest_13]; exact hr_none
    | succ f ih =>
      intro x2 μ
      rw [lX5_greatest_13]
      refine hr_iload_n hC dX5_greatest_13 rfl 0 rfl ?_
      refine hr_aload_n hC dX5_greatest_14 rfl 1 rfl ?_
      refine hr_getR hC hiX5_greatest_X5 rfl kx228 0 (by decide) hmX5_greatest_12 rfl dX5_greatest_15 ?_
      refine hr_getI hC hiX5_greatest_X2 rfl (kxH hx_H0) 0 (by decide) hmX5_greatest_44 rfl dX5_greatest_18 ?_
      refine hr_icmp_ge (tgt := 51) hC dX5_greatest_21 (by decide) (fun _ => ?_) (fun _ => ?_)
      · refine hr_sub (lv' := [(2, .int x2), (0, .ref (ad 228)), (1, .int p1)]) [0, 1, 2] rfl ?_
        exact hk _ _
      · refine hr_aload_n hC dX5_greatest_24 rfl 1 rfl ?_
        refine hr_getR hC hiX5_greatest_X5 rfl kx228 5 (by decide) hmX5_greatest_40 rfl dX5_greatest_25 ?_
        refine hr_iload_n hC dX5_greatest_28 rfl 0 rfl ?_
        refine hr_aload_n hC dX5_greatest_29 rfl 1 rfl ?_
        refine hr_getR hC hiX5_greatest_X5 rfl kx228 0 (by decide) hmX5_greatest_12 rfl dX5_greatest_30 ?_
        refine hr_getI hC hiX5_greatest_X2 rfl (kxH hx_H0) 0 (by decide) hmX5_greatest_44 rfl dX5_greatest_33 ?_
        refine hr_callVi (As := [.int x2, .int (rd μ 0 0)]) (k := 235) hC rfl (tX0_flatsAheadOf (t1 := t1) (t2 := t2) hI n x2 (rd μ 0 0) μ) (cwV 2 hC.1.2.2.2.2 gX5_greatest_X0_flatsAheadOf rfl rfl rfl (by decide +kernel) ⟨Nat.le_of_ble_eq_true rfl, Nat.le_of_ble_eq_true rfl⟩) kx235 rfl rfl rfl (Nat.le_of_ble_eq_true rfl) dX5_greatest_36 (fun r36 m36 => ?_)
        refine hr_iload_n hC dX5_greatest_39 rfl 2 rfl ?_
        refine hr_icmp_ne (tgt := 45) hC dX5_greatest_40 (by decide) (fun _ => ?_) (fun _ => ?_)
        · refine hr_iload_n hC dX5_greatest_43 rfl 0 rfl ?_
          exact hr_ireti hC hr dX5_greatest_44
        · refine hr_iinc (v := (x2 + (1 : Int32))) (lv' := [(2, .int (x2 + (1 : Int32))), (0, .ref (ad 228)), (1, .int p1)]) (kx := 0) hC dX5_greatest_45 rfl rfl (by decide) rfl ?_
          refine hr_goto (tgt := 13) hC dX5_greatest_48 (by decide) ?_
          refine hr_sub (lv' := [(2, .int (x2 + (1 : Int32))), (0, .ref (ad 228)), (1, .int p1)]) [0, 1, 2] rfl ?_
          exact ih _ _
  rw [fX5_greatest]
  refine hr_iload_n hC dX5_greatest_0 rfl 1 rfl ?_
  refine hr_if_ge (tgt := 7) hC dX5_greatest_1 (by decide) (fun _ => ?_) (fun _ => ?_)
  · refine hr_aload_n hC dX5_greatest_7 rfl 0 rfl ?_
    refine hr_callVv (As := []) (k := 228) hC rfl (tX5_drawUpOpenYear (t1 := t1) (t2 := t2) hI n μ) (cwV 0 hC.1.2.2.2.2 gX5_greatest_X5_drawUpOpenYear rfl rfl rfl (by decide +kernel) ⟨Nat.le_of_ble_eq_true rfl, Nat.le_of_ble_eq_true rfl⟩) kx228 rfl rfl rfl (Nat.le_of_ble_eq_true rfl) dX5_greatest_8 (fun m8 => ?_)
    refine hr_iconst (v := 0) hC dX5_greatest_11 (by decide) ?_
    refine hr_istore_n (lv' := [(2, .int (0 : Int32)), (0, .ref (ad 228)), (1, .int p1)]) hC dX5_greatest_12 rfl (by decide) rfl ?_
    refine hr_sub (lv' := [(2, .int (0 : Int32)), (0, .ref (ad 228)), (1, .int p1)]) [0, 1, 2] rfl ?_
    refine L13 _ (fun x2_13 m13 => ?_) _ _ _
    refine hr_bipush (v := -5) hC dX5_greatest_51 (by decide) ?_
    exact hr_ireti hC hr dX5_greatest_53
  · refine hr_bipush (v := -2) hC dX5_greatest_4 (by decide) ?_
    exact hr_ireti hC hr dX5_greatest_6
theorem hmX5_billWithShare_40 : Cond.fieldLink RX5 40 "HeatBills" "accounts" "LHeatBills$Accounts;" ∈ wsX5_billWithShare := List.mem_of_getElem? (i := 1) rfl
theorem hmX5_billWithShare_12 : Cond.fieldLink RX5 12 "HeatBills" "now" "LHeatBills$House;" ∈ wsX5_billWithShare := List.mem_of_getElem? (i := 2) rfl
theorem hmX5_billWithShare_63 : Cond.fieldLink RX5 63 "HeatBills$House" "openYear" "LHeatBills$Year;" ∈ wsX5_billWithShare := List.mem_of_getElem? (i := 3) rfl
theorem hmX5_billWithShare_230 : Cond.fieldLink RX5 230 "HeatBills$Year" "cost" "I" ∈ wsX5_billWithShare := List.mem_of_getElem? (i := 4) rfl
theorem hiX5_billWithShare_X5 : ∀ w ∈ wsX50, w ∈ wsX5_billWithShare := fun _ h => List.mem_cons_of_mem _ (List.mem_append_left _ (List.mem_append_left _ (List.mem_append_left _ (List.mem_append_right _ h))))
theorem hiX5_billWithShare_X2 : ∀ w ∈ wsX20, w ∈ wsX5_billWithShare := fun _ h => List.mem_cons_of_mem _ (List.mem_append_left _ (List.mem_append_left _ (List.mem_append_right _ h)))
theorem hiX5_billWithShare_X4 : ∀ w ∈ wsX40, w ∈ wsX5_billWithShare := fun _ h => List.mem_cons_of_mem _ (List.mem_append_left _ (List.mem_append_right _ h))
def fX5_billWithShare (n : Nat) (p1 : Int32) (p2 : Int32) (μ : hb_m) : Option (Int32 × hb_m) :=
bv (fX0_shareCost n 0 (rd μ (0 + 8) 0) p2 μ) (fun m19 =>
bi (fX0_billOfFlat n p1 m19) (fun r27 m27 =>
some (r27, m27)))
abbrev rmX5_billWithShare : Room := { frames := 3, cells := 0, slots := 0, locals := 78 }
set_option maxRecDepth 100000 in
set_option maxHeartbeats 4000000 in
theorem tX5_billWithShare {l : Launch} {D : va_G} {ad : Nat → Nat} {dA : Nat → ClassId} {t1 t2 : Nat} (hI : hb_I 241 ad) (n : Nat) (p1 : Int32) (p2 : Int32) (μ : hb_m) : hb_M (hb_Qi vwCl kdX 241 ad D dA) l yX5_billWithShare wsX5_billWithShare rmX5_billWithShare vwCl kdX 241 ad D dA (tbX t1 t2) nwX [.ref (ad 228), .int p1, .int p2] μ (fX5_billWithShare n p1 p2 μ) := by
  refine hb_start (cc := cX5_billWithShare) (maxL := 3) (ret := (some .int)) (by decide) rfl hI (Nat.le_of_ble_eq_true rfl) [(0, .ref (ad 228)), (1, .int p1), (2, .int p2)] rfl ?_
  intro p e s m args below meth c hC hr
  rw [fX5_billWithShare]
  refine hr_aload_n hC dX5_billWithShare_0 rfl 0 rfl ?_
  refine hr_getR hC hiX5_billWithShare_X5 rfl kx228 5 (by decide) hmX5_billWithShare_40 rfl dX5_billWithShare_1 ?_
  refine hr_aload_n hC dX5_billWithShare_4 rfl 0 rfl ?_
  refine hr_getR hC hiX5_billWithShare_X5 rfl kx228 0 (by decide) hmX5_billWithShare_12 rfl dX5_billWithShare_5 ?_
  refine hr_aload_n hC dX5_billWithShare_8 rfl 0 rfl ?_
  refine hr_getR hC hiX5_billWithShare_X5 rfl kx228 0 (by decide) hmX5_billWithShare_12 rfl dX5_billWithShare_9 ?_
  refine hr_getR hC hiX5_billWithShare_X2 rfl (kxH hx_H0) 9 (by decide) hmX5_billWithShare_63 rfl dX5_billWithShare_12 ?_
  refine hr_getI hC hiX5_billWithShare_X4 rfl (kxY (hx_Yo hx_H0)) 0 (by decide) hmX5_billWithShare_230 rfl dX5_billWithShare_15 ?_
  refine hr_iload_n hC dX5_billWithShare_18 rfl 2 rfl ?_
  refine hr_callVv (As := [.ref (ad 0), .int (rd μ (0 + 8) 0), .int p2]) (k := 235) hC rfl (tX0_shareCost (t1 := t1) (t2 := t2) hI n 0 hx_H0 (rd μ (0 + 8) 0) p2 μ) (cwV 3 hC.1.2.2.2.2 gX5_billWithShare_X0_shareCost rfl rfl rfl (by decide +kernel) ⟨Nat.le_of_ble_eq_true rfl, Nat.le_of_ble_eq_true rfl⟩) kx235 rfl rfl rfl (Nat.le_of_ble_eq_true rfl) dX5_billWithShare_19 (fun m19 => ?_)
  refine hr_aload_n hC dX5_billWithShare_22 rfl 0 rfl ?_
  refine hr_getR hC hiX5_billWithShare_X5 rfl kx228 5 (by decide) hmX5_billWithShare_40 rfl dX5_billWithShare_23 ?_
  refine hr_iload_n hC dX5_billWithShare_26 rfl 1 rfl ?_
  refine hr_callVi (As := [.int p1]) (k := 235) hC rfl (tX0_billOfFlat (t1 := t1) (t2 := t2) hI n p1 m19) (cwV 1 hC.1.2.2.2.2 gX5_billWithShare_X0_billOfFlat rfl rfl rfl (by decide +kernel) ⟨Nat.le_of_ble_eq_true rfl, Nat.le_of_ble_eq_true rfl⟩) kx235 rfl rfl rfl (Nat.le_of_ble_eq_true rfl) dX5_billWithShare_27 (fun r27 m27 => ?_)
  exact hr_ireti hC hr dX5_billWithShare_30
theorem hmX5_billIf_12 : Cond.fieldLink RX5 12 "HeatBills" "now" "LHeatBills$House;" ∈ wsX5_billIf := List.mem_of_getElem? (i := 1) rfl
theorem hiX5_billIf_X5 : ∀ w ∈ wsX50, w ∈ wsX5_billIf := fun _ h => List.mem_cons_of_mem _ (List.mem_append_left _ (List.mem_append_left _ (List.mem_append_left _ (List.mem_append_right _ h))))
def fX5_billIf (n : Nat) (p1 : Int32) (p2 : Int32) (μ : hb_m) : Option (Int32 × hb_m) :=
bi (fX2_hasFlat n 0 p1 μ) (fun r5 m5 =>
if r5 = 0 then
(some ((-1 : Int32), m5))
else
(if p2 < 0 then
(some ((-2 : Int32), m5))
else
(if p2 ≤ (100 : Int32) then
(bv (fX5_drawUpOpenYear n m5) (fun m27 =>
bi (fX5_billWithShare n p1 p2 m27) (fun r33 m33 =>
some (r33, m33))))
else
(some ((-2 : Int32), m5)))))
abbrev rmX5_billIf : Room := { frames := 5, cells := 0, slots := 0, locals := 121 }
set_option maxRecDepth 100000 in
set_option maxHeartbeats 4000000 in
theorem tX5_billIf {l : Launch} {D : va_G} {ad : Nat → Nat} {dA : Nat → ClassId} {t1 t2 : Nat} (hI : hb_I 241 ad) (n : Nat) (p1 : Int32) (p2 : Int32) (μ : hb_m) : hb_M (hb_Qi vwCl kdX 241 ad D dA) l yX5_billIf wsX5_billIf rmX5_billIf vwCl kdX 241 ad D dA (tbX t1 t2) nwX [.ref (ad 228), .int p1, .int p2] μ (fX5_billIf n p1 p2 μ) := by
  refine hb_start (cc := cX5_billIf) (maxL := 3) (ret := (some .int)) (by decide) rfl hI (Nat.le_of_ble_eq_true rfl) [(0, .ref (ad 228)), (1, .int p1), (2, .int p2)] rfl ?_
  intro p e s m args below meth c hC hr
  rw [fX5_billIf]
  refine hr_aload_n hC dX5_billIf_0 rfl 0 rfl ?_
  refine hr_getR hC hiX5_billIf_X5 rfl kx228 0 (by decide) hmX5_billIf_12 rfl dX5_billIf_1 ?_
  refine hr_iload_n hC dX5_billIf_4 rfl 1 rfl ?_
  refine hr_callVi (As := [.int p1]) (k := 0) hC rfl (tX2_hasFlat (t1 := t1) (t2 := t2) hI n 0 hx_H0 p1 μ) (cwV 1 hC.1.2.2.2.2 gX5_billIf_X2_hasFlat rfl rfl rfl (by decide +kernel) ⟨Nat.le_of_ble_eq_true rfl, Nat.le_of_ble_eq_true rfl⟩) (kxH hx_H0) rfl rfl rfl (Nat.le_of_ble_eq_true rfl) dX5_billIf_5 (fun r5 m5 => ?_)
  refine hr_if_ne (tgt := 13) hC dX5_billIf_8 (by decide) (fun _ => ?_) (fun _ => ?_)
  · refine hr_iconst (v := -1) hC dX5_billIf_11 (by decide) ?_
    exact hr_ireti hC hr dX5_billIf_12
  · refine hr_iload_n hC dX5_billIf_13 rfl 2 rfl ?_
    refine hr_if_lt (tgt := 23) hC dX5_billIf_14 (by decide) (fun _ => ?_) (fun _ => ?_)
    · refine hr_bipush (v := -2) hC dX5_billIf_23 (by decide) ?_
      exact hr_ireti hC hr dX5_billIf_25
    · refine hr_iload_n hC dX5_billIf_17 rfl 2 rfl ?_
      refine hr_bipush (v := 100) hC dX5_billIf_18 (by decide) ?_
      refine hr_icmp_le (tgt := 26) hC dX5_billIf_20 (by decide) (fun _ => ?_) (fun _ => ?_)
      · refine hr_aload_n hC dX5_billIf_26 rfl 0 rfl ?_
        refine hr_callVv (As := []) (k := 228) hC rfl (tX5_drawUpOpenYear (t1 := t1) (t2 := t2) hI n m5) (cwV 0 hC.1.2.2.2.2 gX5_billIf_X5_drawUpOpenYear rfl rfl rfl (by decide +kernel) ⟨Nat.le_of_ble_eq_true rfl, Nat.le_of_ble_eq_true rfl⟩) kx228 rfl rfl rfl (Nat.le_of_ble_eq_true rfl) dX5_billIf_27 (fun m27 => ?_)
        refine hr_aload_n hC dX5_billIf_30 rfl 0 rfl ?_
        refine hr_iload_n hC dX5_billIf_31 rfl 1 rfl ?_
        refine hr_iload_n hC dX5_billIf_32 rfl 2 rfl ?_
        refine hr_callVi (As := [.int p1, .int p2]) (k := 228) hC rfl (tX5_billWithShare (t1 := t1) (t2 := t2) hI n p1 p2 m27) (cwV 2 hC.1.2.2.2.2 gX5_billIf_X5_billWithShare rfl rfl rfl (by decide +kernel) ⟨Nat.le_of_ble_eq_true rfl, Nat.le_of_ble_eq_true rfl⟩) kx228 rfl rfl rfl (Nat.le_of_ble_eq_true rfl) dX5_billIf_33 (fun r33 m33 => ?_)
        exact hr_ireti hC hr dX5_billIf_36
      · refine hr_bipush (v := -2) hC dX5_billIf_23 (by decide) ?_
        exact hr_ireti hC hr dX5_billIf_25
theorem hmX5_bestShare_12 : Cond.fieldLink RX5 12 "HeatBills" "now" "LHeatBills$House;" ∈ wsX5_bestShare := List.mem_of_getElem? (i := 1) rfl
theorem hiX5_bestShare_X5 : ∀ w ∈ wsX50, w ∈ wsX5_bestShare := fun _ h => List.mem_cons_of_mem _ (List.mem_append_left _ (List.mem_append_left _ (List.mem_append_left _ (List.mem_append_right _ h))))
def lX5_bestShare_29 (n : Nat) (p1 : Int32) (k : Int32 → Int32 → Int32 → hb_m → Option (Int32 × hb_m)) : Nat → Int32 → Int32 → Int32 → hb_m → Option (Int32 × hb_m)
  | 0, _, _, _, _ => none
  | f + 1, x4, x3, x2, μ => if (100 : Int32) < x4 then
(k x4 x3 x2 μ)
else
(bi (fX5_billWithShare n p1 x4 μ) (fun r40 m40 =>
if x3 ≤ r40 then
(lX5_bestShare_29 n p1 k f (x4 + (1 : Int32)) x3 x2 m40)
else
(lX5_bestShare_29 n p1 k f (x4 + (1 : Int32)) r40 x4 m40)))
def fX5_bestShare (n : Nat) (p1 : Int32) (μ : hb_m) : Option (Int32 × hb_m) :=
bi (fX2_hasFlat n 0 p1 μ) (fun r5 m5 =>
if r5 = 0 then
(some ((-1 : Int32), m5))
else
(bv (fX5_drawUpOpenYear n m5) (fun m14 =>
bi (fX5_billWithShare n p1 (0 : Int32) m14) (fun r22 m22 =>
lX5_bestShare_29 n p1 (fun x4_29 x3_29 x2_29 m29 =>
some (x2_29, m29)) n (1 : Int32) r22 (0 : Int32) m22))))
abbrev rmX5_bestShare : Room := { frames := 5, cells := 0, slots := 0, locals := 121 }
set_option maxRecDepth 100000 in
set_option maxHeartbeats 4000000 in
theorem tX5_bestShare {l : Launch} {D : va_G} {ad : Nat → Nat} {dA : Nat → ClassId} {t1 t2 : Nat} (hI : hb_I 241 ad) (n : Nat) (p1 : Int32) (μ : hb_m) : hb_M (hb_Qi vwCl kdX 241 ad D dA) l yX5_bestShare wsX5_bestShare rmX5_bestShare vwCl kdX 241 ad D dA (tbX t1 t2) nwX [.ref (ad 228), .int p1] μ (fX5_bestShare n p1 μ) := by
  refine hb_start (cc := cX5_bestShare) (maxL := 6) (ret := (some .int)) (by decide) rfl hI (Nat.le_of_ble_eq_true rfl) [(0, .ref (ad 228)), (1, .int p1)] rfl ?_
  intro p e s m args below meth c hC hr
  have L29 : ∀ (k : Int32 → Int32 → Int32 → hb_m → Option (Int32 × hb_m)) (hk : ∀ (x4 : Int32) (x3 : Int32) (x2 : Int32) (μ : hb_m), hb_V p l e rmX5_bestShare s m args below meth c 6 vwCl kdX 241 ad D dA (hb_Qi vwCl kdX 241 ad D dA) μ 63 [(4, .int x4), (3, .int x3), (2, .int x2), (0, .ref (ad 228)), (1, .int p1)] [] (k x4 x3 x2 μ)) (f : Nat) (x4 : Int32) (x3 : Int32) (x2 : Int32) (μ : hb_m), hb_V p l e rmX5_bestShare s m args below meth c 6 vwCl kdX 241 ad D dA (hb_Qi vwCl kdX 241 ad D dA) μ 29 [(4, .int x4), (3, .int x3), (2, .int x2), (0, .ref (ad 228)), (1, .int p1)] [] (lX5_bestShare_29 n p1 k f x4 x3 x2 μ) := by
    intro k hk f
    induction f with
    | zero => intro x4 x3 x2 μ; rw [lX5_bestShare_29]; exact hr_none
    | succ f ih =>
      intro x4 x3 x2 μ
      rw [lX5_bestShare_29]
      refine hr_iload hC dX5_bestShare_29 0 rfl ?_
      refine hr_bipush (v := 100) hC dX5_bestShare_31 (by decide) ?_
      refine hr_icmp_gt (tgt := 63) hC dX5_bestShare_33 (by decide) (fun _ => ?_) (fun _ => ?_)
      · refine hr_sub (lv' := [(4, .int x4), (3, .int x3), (2, .int x2), (0, .ref (ad 228)), (1, .int p1)]) [0, 1, 2, 3, 4] rfl ?_
        exact hk _ _ _ _
      · refine hr_aload_n hC dX5_bestShare_36 rfl 3 rfl ?_
        refine hr_iload_n hC dX5_bestShare_37 rfl 4 rfl ?_
        refine hr_iload hC dX5_bestShare_38 0 rfl ?_
        refine hr_callVi (As := [.int p1, .int x4]) (k := 228) hC rfl (tX5_billWithShare (t1 := t1) (t2 := t2) hI n p1 x4 μ) (cwV 2 hC.1.2.2.2.2 gX5_bestShare_X5_billWithShare rfl rfl rfl (by decide +kernel) ⟨Nat.le_of_ble_eq_true rfl, Nat.le_of_ble_eq_true rfl⟩) kx228 rfl rfl rfl (Nat.le_of_ble_eq_true rfl) dX5_bestShare_40 (fun r40 m40 => ?_)
        refine hr_istore (lv' := [(5, .int r40), (4, .int x4), (3, .int x3), (2, .int x2), (0, .ref (ad 228)), (1, .int p1)]) hC dX5_bestShare_43 (by decide) rfl ?_
        refine hr_iload hC dX5_bestShare_45 0 rfl ?_
        refine hr_iload_n hC dX5_bestShare_47 rfl 2 rfl ?_
        refine hr_icmp_ge (tgt := 57) hC dX5_bestShare_48 (by decide) (fun _ => ?_) (fun _ => ?_)
        · refine hr_iinc (v := (x4 + (1 : Int32))) (lv' := [(4, .int (x4 + (1 : Int32))), (5, .int r40), (3, .int x3), (2, .int x2), (0, .ref (ad 228)), (1, .int p1)]) (kx := 1) hC dX5_bestShare_57 rfl rfl (by decide) rfl ?_
          refine hr_goto (tgt := 29) hC dX5_bestShare_60 (by decide) ?_
          refine hr_sub (lv' := [(4, .int (x4 + (1 : Int32))), (3, .int x3), (2, .int x2), (0, .ref (ad 228)), (1, .int p1)]) [0, 2, 3, 4, 5] rfl ?_
          exact ih _ _ _ _
        · refine hr_iload hC dX5_bestShare_51 0 rfl ?_
          refine hr_istore_n (lv' := [(3, .int r40), (5, .int r40), (4, .int x4), (2, .int x2), (0, .ref (ad 228)), (1, .int p1)]) hC dX5_bestShare_53 rfl (by decide) rfl ?_
          refine hr_iload hC dX5_bestShare_54 2 rfl ?_
          refine hr_istore_n (lv' := [(2, .int x4), (3, .int r40), (5, .int r40), (4, .int x4), (0, .ref (ad 228)), (1, .int p1)]) hC dX5_bestShare_56 rfl (by decide) rfl ?_
          refine hr_iinc (v := (x4 + (1 : Int32))) (lv' := [(4, .int (x4 + (1 : Int32))), (2, .int x4), (3, .int r40), (5, .int r40), (0, .ref (ad 228)), (1, .int p1)]) (kx := 3) hC dX5_bestShare_57 rfl rfl (by decide) rfl ?_
          refine hr_goto (tgt := 29) hC dX5_bestShare_60 (by decide) ?_
          refine hr_sub (lv' := [(4, .int (x4 + (1 : Int32))), (3, .int r40), (2, .int x4), (0, .ref (ad 228)), (1, .int p1)]) [0, 2, 1, 4, 5] rfl ?_
          exact ih _ _ _ _
  rw [fX5_bestShare]
  refine hr_aload_n hC dX5_bestShare_0 rfl 0 rfl ?_
  refine hr_getR hC hiX5_bestShare_X5 rfl kx228 0 (by decide) hmX5_bestShare_12 rfl dX5_bestShare_1 ?_
  refine hr_iload_n hC dX5_bestShare_4 rfl 1 rfl ?_
  refine hr_callVi (As := [.int p1]) (k := 0) hC rfl (tX2_hasFlat (t1 := t1) (t2 := t2) hI n 0 hx_H0 p1 μ) (cwV 1 hC.1.2.2.2.2 gX5_bestShare_X2_hasFlat rfl rfl rfl (by decide +kernel) ⟨Nat.le_of_ble_eq_true rfl, Nat.le_of_ble_eq_true rfl⟩) (kxH hx_H0) rfl rfl rfl (Nat.le_of_ble_eq_true rfl) dX5_bestShare_5 (fun r5 m5 => ?_)
  refine hr_if_ne (tgt := 13) hC dX5_bestShare_8 (by decide) (fun _ => ?_) (fun _ => ?_)
  · refine hr_iconst (v := -1) hC dX5_bestShare_11 (by decide) ?_
    exact hr_ireti hC hr dX5_bestShare_12
  · refine hr_aload_n hC dX5_bestShare_13 rfl 0 rfl ?_
    refine hr_callVv (As := []) (k := 228) hC rfl (tX5_drawUpOpenYear (t1 := t1) (t2 := t2) hI n m5) (cwV 0 hC.1.2.2.2.2 gX5_bestShare_X5_drawUpOpenYear rfl rfl rfl (by decide +kernel) ⟨Nat.le_of_ble_eq_true rfl, Nat.le_of_ble_eq_true rfl⟩) kx228 rfl rfl rfl (Nat.le_of_ble_eq_true rfl) dX5_bestShare_14 (fun m14 => ?_)
    refine hr_iconst (v := 0) hC dX5_bestShare_17 (by decide) ?_
    refine hr_istore_n (lv' := [(2, .int (0 : Int32)), (0, .ref (ad 228)), (1, .int p1)]) hC dX5_bestShare_18 rfl (by decide) rfl ?_
    refine hr_aload_n hC dX5_bestShare_19 rfl 1 rfl ?_
    refine hr_iload_n hC dX5_bestShare_20 rfl 2 rfl ?_
    refine hr_iconst (v := 0) hC dX5_bestShare_21 (by decide) ?_
    refine hr_callVi (As := [.int p1, .int (0 : Int32)]) (k := 228) hC rfl (tX5_billWithShare (t1 := t1) (t2 := t2) hI n p1 (0 : Int32) m14) (cwV 2 hC.1.2.2.2.2 gX5_bestShare_X5_billWithShare rfl rfl rfl (by decide +kernel) ⟨Nat.le_of_ble_eq_true rfl, Nat.le_of_ble_eq_true rfl⟩) kx228 rfl rfl rfl (Nat.le_of_ble_eq_true rfl) dX5_bestShare_22 (fun r22 m22 => ?_)
    refine hr_istore_n (lv' := [(3, .int r22), (2, .int (0 : Int32)), (0, .ref (ad 228)), (1, .int p1)]) hC dX5_bestShare_25 rfl (by decide) rfl ?_
    refine hr_iconst (v := 1) hC dX5_bestShare_26 (by decide) ?_
    refine hr_istore (lv' := [(4, .int (1 : Int32)), (3, .int r22), (2, .int (0 : Int32)), (0, .ref (ad 228)), (1, .int p1)]) hC dX5_bestShare_27 (by decide) rfl ?_
    refine hr_sub (lv' := [(4, .int (1 : Int32)), (3, .int r22), (2, .int (0 : Int32)), (0, .ref (ad 228)), (1, .int p1)]) [0, 1, 2, 3, 4] rfl ?_
    refine L29 _ (fun x4_29 x3_29 x2_29 m29 => ?_) _ _ _ _ _
    refine hr_iload_n hC dX5_bestShare_63 rfl 2 rfl ?_
    exact hr_ireti hC hr dX5_bestShare_64
theorem hmX2_keptBills_48 : Cond.fieldLink RX2 48 "HeatBills$House" "closedCount" "I" ∈ wsX2_keptBills := List.mem_of_getElem? (i := 1) rfl
theorem hmX2_keptBills_51 : Cond.fieldLink RX2 51 "HeatBills$House" "closedYears" "[LHeatBills$Year;" ∈ wsX2_keptBills := List.mem_of_getElem? (i := 2) rfl
theorem hmX2_keptBills_78 : Cond.fieldLink RX2 78 "HeatBills$Year" "bills" "[I" ∈ wsX2_keptBills := List.mem_of_getElem? (i := 3) rfl
theorem hmX2_keptBills_ini_X5_sumOf : Cond.initialized yX5_sumOf.cls ∈ wsX2_keptBills := List.mem_of_getElem? (i := 5) rfl
theorem hmX2_keptBills_sta_X5_sumOf : Cond.static yX5_sumOf ∈ wsX2_keptBills := List.mem_of_getElem? (i := 4) rfl
theorem hiX2_keptBills_X2 : ∀ w ∈ wsX20, w ∈ wsX2_keptBills := fun _ h => List.mem_cons_of_mem _ (List.mem_append_left _ (List.mem_append_right _ h))
theorem hiX2_keptBills_X4 : ∀ w ∈ wsX40, w ∈ wsX2_keptBills := fun _ h => List.mem_cons_of_mem _ (List.mem_append_right _ h)
def lX2_keptBills_4 (n : Nat) (c0 : Nat) (k : Int32 → Int32 → hb_m → Option (Int32 × hb_m)) : Nat → Int32 → Int32 → hb_m → Option (Int32 × hb_m)
  | 0, _, _, _ => none
  | f + 1, x2, x1, μ => if (rd μ c0 10) ≤ x2 then
(k x2 x1 μ)
else
(if ib x2 4 then
bi (fX5_sumOf n ((c0 + 14 + 6 * x2.toNatClampNeg) + 4) (16 : Int32) μ) (fun r24 m24 =>
lX2_keptBills_4 n c0 k f (x2 + (1 : Int32)) (x1 + r24) m24)
else none)
def fX2_keptBills (n : Nat) (c0 : Nat) (μ : hb_m) : Option (Int32 × hb_m) :=
lX2_keptBills_4 n c0 (fun x2_4 x1_4 m4 =>
some (x1_4, m4)) n (0 : Int32) (0 : Int32) μ
abbrev rmX2_keptBills : Room := { frames := 1, cells := 0, slots := 0, locals := 23 }
set_option maxRecDepth 100000 in
set_option maxHeartbeats 4000000 in
theorem tX2_keptBills {l : Launch} {D : va_G} {ad : Nat → Nat} {dA : Nat → ClassId} {t1 t2 : Nat} (hI : hb_I 241 ad) (n : Nat) (c0 : Nat) (h0 : hx_H c0) (μ : hb_m) : hb_M (hb_Qi vwCl kdX 241 ad D dA) l yX2_keptBills wsX2_keptBills rmX2_keptBills vwCl kdX 241 ad D dA (tbX t1 t2) nwX [.ref (ad c0)] μ (fX2_keptBills n c0 μ) := by
  refine hb_start (cc := cX2_keptBills) (maxL := 3) (ret := (some .int)) (by decide) rfl hI (Nat.le_of_ble_eq_true rfl) [(0, .ref (ad c0))] rfl ?_
  intro p e s m args below meth c hC hr
  have L4 : ∀ (k : Int32 → Int32 → hb_m → Option (Int32 × hb_m)) (hk : ∀ (x2 : Int32) (x1 : Int32) (μ : hb_m), hb_V p l e rmX2_keptBills s m args below meth c 3 vwCl kdX 241 ad D dA (hb_Qi vwCl kdX 241 ad D dA) μ 35 [(2, .int x2), (1, .int x1), (0, .ref (ad c0))] [] (k x2 x1 μ)) (f : Nat) (x2 : Int32) (x1 : Int32) (μ : hb_m), hb_V p l e rmX2_keptBills s m args below meth c 3 vwCl kdX 241 ad D dA (hb_Qi vwCl kdX 241 ad D dA) μ 4 [(2, .int x2), (1, .int x1), (0, .ref (ad c0))] [] (lX2_keptBills_4 n c0 k f x2 x1 μ) := by
    intro k hk f
    induction f with
    | zero => intro x2 x1 μ; rw [lX2_keptBills_4]; exact hr_none
    | succ f ih =>
      intro x2 x1 μ
      rw [lX2_keptBills_4]
      refine hr_iload_n hC dX2_keptBills_4 rfl 0 rfl ?_
      refine hr_aload_n hC dX2_keptBills_5 rfl 2 rfl ?_
      refine hr_getI hC hiX2_keptBills_X2 rfl (kxH h0) 10 (by decide) hmX2_keptBills_48 rfl dX2_keptBills_6 ?_
      refine hr_icmp_ge (tgt := 35) hC dX2_keptBills_9 (by decide) (fun _ => ?_) (fun _ => ?_)
      · refine hr_sub (lv' := [(2, .int x2), (1, .int x1), (0, .ref (ad c0))]) [0, 1, 2] rfl ?_
        exact hk _ _ _
      · refine hr_iload_n hC dX2_keptBills_12 rfl 1 rfl ?_
        refine hr_aload_n hC dX2_keptBills_13 rfl 2 rfl ?_
        refine hr_getR hC hiX2_keptBills_X2 rfl (kxH h0) 11 (by decide) hmX2_keptBills_51 rfl dX2_keptBills_14 ?_
        refine hr_iload_n hC dX2_keptBills_17 rfl 0 rfl ?_
        refine hr_aald hC (fun j => c0 + 14 + 6 * j) 4 (kxH7 h0) rfl (kxH7c c0) dX2_keptBills_18 (fun hlt18 => ?_)
        refine hr_getR hC hiX2_keptBills_X4 rfl (kxY (hx_Yc h0 hlt18)) 6 (by decide) hmX2_keptBills_78 rfl dX2_keptBills_19 ?_
        refine hr_bipush (v := 16) hC dX2_keptBills_22 (by decide) ?_
        refine hr_callSNi (As := [.ref (ad ((c0 + 14 + 6 * x2.toNatClampNeg) + 4)), .int (16 : Int32)]) hC rfl (tX5_sumOf (t1 := t1) (t2 := t2) hI n ((c0 + 14 + 6 * x2.toNatClampNeg) + 4) (hx_Io (kxY4 (hx_Yc h0 hlt18))) (16 : Int32) μ) ⟨va_cnB 2 hC.1.2.2.2.2 gX2_keptBills_X5_sumOf_n81 rfl rfl rfl (hC.2.2.2.2.1 _ nwX_2) (hC.1.2.2.2.2 _ hmX2_keptBills_ini_X5_sumOf) (by decide +kernel) ⟨Nat.le_of_ble_eq_true rfl, Nat.le_of_ble_eq_true rfl⟩, hC.1.2.2.2.2 _ hmX2_keptBills_sta_X5_sumOf, trivial⟩ rfl (Nat.le_of_ble_eq_true rfl) dX2_keptBills_24 (fun r24 m24 => ?_)
        refine hr_iadd hC dX2_keptBills_27 ?_
        refine hr_istore_n (lv' := [(1, .int (x1 + r24)), (2, .int x2), (0, .ref (ad c0))]) hC dX2_keptBills_28 rfl (by decide) rfl ?_
        refine hr_iinc (v := (x2 + (1 : Int32))) (lv' := [(2, .int (x2 + (1 : Int32))), (1, .int (x1 + r24)), (0, .ref (ad c0))]) (kx := 1) hC dX2_keptBills_29 rfl rfl (by decide) rfl ?_
        refine hr_goto (tgt := 4) hC dX2_keptBills_32 (by decide) ?_
        refine hr_sub (lv' := [(2, .int (x2 + (1 : Int32))), (1, .int (x1 + r24)), (0, .ref (ad c0))]) [0, 1, 2] rfl ?_
        exact ih _ _ _
  rw [fX2_keptBills]
  refine hr_iconst (v := 0) hC dX2_keptBills_0 (by decide) ?_
  refine hr_istore_n (lv' := [(1, .int (0 : Int32)), (0, .ref (ad c0))]) hC dX2_keptBills_1 rfl (by decide) rfl ?_
  refine hr_iconst (v := 0) hC dX2_keptBills_2 (by decide) ?_
  refine hr_istore_n (lv' := [(2, .int (0 : Int32)), (1, .int (0 : Int32)), (0, .ref (ad c0))]) hC dX2_keptBills_3 rfl (by decide) rfl ?_
  refine hr_sub (lv' := [(2, .int (0 : Int32)), (1, .int (0 : Int32)), (0, .ref (ad c0))]) [0, 1, 2] rfl ?_
  refine L4 _ (fun x2_4 x1_4 m4 => ?_) _ _ _ _
  refine hr_iload_n hC dX2_keptBills_35 rfl 1 rfl ?_
  exact hr_ireti hC hr dX2_keptBills_36
theorem hmX2_moveCount_9 : Cond.fieldLink RX2 9 "HeatBills$House" "flatCount" "I" ∈ wsX2_moveCount := List.mem_of_getElem? (i := 1) rfl
theorem hmX2_moveCount_44 : Cond.fieldLink RX2 44 "HeatBills$House" "openYear" "LHeatBills$Year;" ∈ wsX2_moveCount := List.mem_of_getElem? (i := 2) rfl
theorem hiX2_moveCount_X2 : ∀ w ∈ wsX20, w ∈ wsX2_moveCount := fun _ h => List.mem_cons_of_mem _ (List.mem_append_left _ (List.mem_append_right _ h))
def lX2_moveCount_4 (n : Nat) (c0 : Nat) (k : Int32 → Int32 → hb_m → Option (Int32 × hb_m)) : Nat → Int32 → Int32 → hb_m → Option (Int32 × hb_m)
  | 0, _, _, _ => none
  | f + 1, x2, x1, μ => if (rd μ c0 0) ≤ x2 then
(k x2 x1 μ)
else
(bi (fX4_hasMove n (c0 + 8) x2 μ) (fun r17 m17 =>
if r17 = 0 then
(lX2_moveCount_4 n c0 k f (x2 + (1 : Int32)) x1 m17)
else
(lX2_moveCount_4 n c0 k f (x2 + (1 : Int32)) (x1 + (1 : Int32)) m17)))
def fX2_moveCount (n : Nat) (c0 : Nat) (μ : hb_m) : Option (Int32 × hb_m) :=
lX2_moveCount_4 n c0 (fun x2_4 x1_4 m4 =>
some (x1_4, m4)) n (0 : Int32) (0 : Int32) μ
abbrev rmX2_moveCount : Room := { frames := 1, cells := 0, slots := 0, locals := 21 }
set_option maxRecDepth 100000 in
set_option maxHeartbeats 4000000 in
theorem tX2_moveCount {l : Launch} {D : va_G} {ad : Nat → Nat} {dA : Nat → ClassId} {t1 t2 : Nat} (hI : hb_I 241 ad) (n : Nat) (c0 : Nat) (h0 : hx_H c0) (μ : hb_m) : hb_M (hb_Qi vwCl kdX 241 ad D dA) l yX2_moveCount wsX2_moveCount rmX2_moveCount vwCl kdX 241 ad D dA (tbX t1 t2) nwX [.ref (ad c0)] μ (fX2_moveCount n c0 μ) := by
  refine hb_start (cc := cX2_moveCount) (maxL := 3) (ret := (some .int)) (by decide) rfl hI (Nat.le_of_ble_eq_true rfl) [(0, .ref (ad c0))] rfl ?_
  intro p e s m args below meth c hC hr
  have L4 : ∀ (k : Int32 → Int32 → hb_m → Option (Int32 × hb_m)) (hk : ∀ (x2 : Int32) (x1 : Int32) (μ : hb_m), hb_V p l e rmX2_moveCount s m args below meth c 3 vwCl kdX 241 ad D dA (hb_Qi vwCl kdX 241 ad D dA) μ 32 [(2, .int x2), (1, .int x1), (0, .ref (ad c0))] [] (k x2 x1 μ)) (f : Nat) (x2 : Int32) (x1 : Int32) (μ : hb_m), hb_V p l e rmX2_moveCount s m args below meth c 3 vwCl kdX 241 ad D dA (hb_Qi vwCl kdX 241 ad D dA) μ 4 [(2, .int x2), (1, .int x1), (0, .ref (ad c0))] [] (lX2_moveCount_4 n c0 k f x2 x1 μ) := by
    intro k hk f
    induction f with
    | zero => intro x2 x1 μ; rw [lX2_moveCount_4]; exact hr_none
    | succ f ih =>
      intro x2 x1 μ
      rw [lX2_moveCount_4]
      refine hr_iload_n hC dX2_moveCount_4 rfl 0 rfl ?_
      refine hr_aload_n hC dX2_moveCount_5 rfl 2 rfl ?_
      refine hr_getI hC hiX2_moveCount_X2 rfl (kxH h0) 0 (by decide) hmX2_moveCount_9 rfl dX2_moveCount_6 ?_
      refine hr_icmp_ge (tgt := 32) hC dX2_moveCount_9 (by decide) (fun _ => ?_) (fun _ => ?_)
      · refine hr_sub (lv' := [(2, .int x2), (1, .int x1), (0, .ref (ad c0))]) [0, 1, 2] rfl ?_
        exact hk _ _ _
      · refine hr_aload_n hC dX2_moveCount_12 rfl 2 rfl ?_
        refine hr_getR hC hiX2_moveCount_X2 rfl (kxH h0) 9 (by decide) hmX2_moveCount_44 rfl dX2_moveCount_13 ?_
        refine hr_iload_n hC dX2_moveCount_16 rfl 0 rfl ?_
        refine hr_callVi (As := [.int x2]) (k := (c0 + 8)) hC rfl (tX4_hasMove (t1 := t1) (t2 := t2) hI n (c0 + 8) (hx_Yo h0) x2 μ) (cwV 1 hC.1.2.2.2.2 gX2_moveCount_X4_hasMove rfl rfl rfl (by decide +kernel) ⟨Nat.le_of_ble_eq_true rfl, Nat.le_of_ble_eq_true rfl⟩) (kxY (hx_Yo h0)) rfl rfl rfl (Nat.le_of_ble_eq_true rfl) dX2_moveCount_17 (fun r17 m17 => ?_)
        refine hr_if_eq (tgt := 26) hC dX2_moveCount_20 (by decide) (fun _ => ?_) (fun _ => ?_)
        · refine hr_iinc (v := (x2 + (1 : Int32))) (lv' := [(2, .int (x2 + (1 : Int32))), (1, .int x1), (0, .ref (ad c0))]) (kx := 0) hC dX2_moveCount_26 rfl rfl (by decide) rfl ?_
          refine hr_goto (tgt := 4) hC dX2_moveCount_29 (by decide) ?_
          refine hr_sub (lv' := [(2, .int (x2 + (1 : Int32))), (1, .int x1), (0, .ref (ad c0))]) [0, 1, 2] rfl ?_
          exact ih _ _ _
        · refine hr_iinc (v := (x1 + (1 : Int32))) (lv' := [(1, .int (x1 + (1 : Int32))), (2, .int x2), (0, .ref (ad c0))]) (kx := 1) hC dX2_moveCount_23 rfl rfl (by decide) rfl ?_
          refine hr_iinc (v := (x2 + (1 : Int32))) (lv' := [(2, .int (x2 + (1 : Int32))), (1, .int (x1 + (1 : Int32))), (0, .ref (ad c0))]) (kx := 1) hC dX2_moveCount_26 rfl rfl (by decide) rfl ?_
          refine hr_goto (tgt := 4) hC dX2_moveCount_29 (by decide) ?_
          refine hr_sub (lv' := [(2, .int (x2 + (1 : Int32))), (1, .int (x1 + (1 : Int32))), (0, .ref (ad c0))]) [0, 1, 2] rfl ?_
          exact ih _ _ _
  rw [fX2_moveCount]
  refine hr_iconst (v := 0) hC dX2_moveCount_0 (by decide) ?_
  refine hr_istore_n (lv' := [(1, .int (0 : Int32)), (0, .ref (ad c0))]) hC dX2_moveCount_1 rfl (by decide) rfl ?_
  refine hr_iconst (v := 0) hC dX2_moveCount_2 (by decide) ?_
  refine hr_istore_n (lv' := [(2, .int (0 : Int32)), (1, .int (0 : Int32)), (0, .ref (ad c0))]) hC dX2_moveCount_3 rfl (by decide) rfl ?_
  refine hr_sub (lv' := [(2, .int (0 : Int32)), (1, .int (0 : Int32)), (0, .ref (ad c0))]) [0, 1, 2] rfl ?_
  refine L4 _ (fun x2_4 x1_4 m4 => ?_) _ _ _ _
  refine hr_iload_n hC dX2_moveCount_32 rfl 1 rfl ?_
  exact hr_ireti hC hr dX2_moveCount_33

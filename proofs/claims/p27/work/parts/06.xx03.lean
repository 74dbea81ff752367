theorem hmX3_tellTo_25 : Cond.fieldLink RX3 25 "HeatBills$ReadingsText" "toldCount" "I" ∈ wsX3_tellTo := List.mem_of_getElem? (i := 1) rfl
theorem hmX3_tellTo_28 : Cond.fieldLink RX3 28 "HeatBills$ReadingsText" "toldDevices" "[I" ∈ wsX3_tellTo := List.mem_of_getElem? (i := 2) rfl
theorem hmX3_tellTo_71 : Cond.fieldLink RX3 71 "HeatBills$House" "faulty" "[Z" ∈ wsX3_tellTo := List.mem_of_getElem? (i := 3) rfl
theorem hmX3_tellTo_32 : Cond.fieldLink RX3 32 "HeatBills$ReadingsText" "toldReadings" "[I" ∈ wsX3_tellTo := List.mem_of_getElem? (i := 4) rfl
theorem hmX3_tellTo_75 : Cond.fieldLink RX3 75 "HeatBills$House" "endReadings" "[I" ∈ wsX3_tellTo := List.mem_of_getElem? (i := 5) rfl
theorem hiX3_tellTo_X3 : ∀ w ∈ wsX30, w ∈ wsX3_tellTo := fun _ h => List.mem_cons_of_mem _ (List.mem_append_left _ (List.mem_append_right _ h))
theorem hiX3_tellTo_X2 : ∀ w ∈ wsX20, w ∈ wsX3_tellTo := fun _ h => List.mem_cons_of_mem _ (List.mem_append_right _ h)
def lX3_tellTo_2 (n : Nat) (c1 : Nat) (k : Int32 → hb_m → Option (hb_m)) : Nat → Int32 → hb_m → Option (hb_m)
  | 0, _, _ => none
  | f + 1, x2, μ => if (rd μ 231 4) ≤ x2 then
(k x2 μ)
else
(if ib x2 15 then
if ib x2 15 then
if (rd μ 234 x2.toNatClampNeg) = (-5 : Int32) then
(if ib (rd μ 233 x2.toNatClampNeg) 20 then
if ib x2 15 then
if (rd (wr μ (c1 + 6) (rd μ 233 x2.toNatClampNeg).toNatClampNeg (vp_nar .boolean (1 : Int32))) 234 x2.toNatClampNeg) = (-5 : Int32) then
(lX3_tellTo_2 n c1 k f (x2 + (1 : Int32)) (wr μ (c1 + 6) (rd μ 233 x2.toNatClampNeg).toNatClampNeg (vp_nar .boolean (1 : Int32))))
else
(if ib x2 15 then
if ib (rd μ 233 x2.toNatClampNeg) 20 then
lX3_tellTo_2 n c1 k f (x2 + (1 : Int32)) (wr (wr μ (c1 + 6) (rd μ 233 x2.toNatClampNeg).toNatClampNeg (vp_nar .boolean (1 : Int32))) (c1 + 5) (rd μ 233 x2.toNatClampNeg).toNatClampNeg (rd (wr μ (c1 + 6) (rd μ 233 x2.toNatClampNeg).toNatClampNeg (vp_nar .boolean (1 : Int32))) 234 x2.toNatClampNeg))
else none
else none)
else none
else none)
else
(if ib (rd μ 233 x2.toNatClampNeg) 20 then
if ib x2 15 then
if (rd (wr μ (c1 + 6) (rd μ 233 x2.toNatClampNeg).toNatClampNeg (vp_nar .boolean (0 : Int32))) 234 x2.toNatClampNeg) = (-5 : Int32) then
(lX3_tellTo_2 n c1 k f (x2 + (1 : Int32)) (wr μ (c1 + 6) (rd μ 233 x2.toNatClampNeg).toNatClampNeg (vp_nar .boolean (0 : Int32))))
else
(if ib x2 15 then
if ib (rd μ 233 x2.toNatClampNeg) 20 then
lX3_tellTo_2 n c1 k f (x2 + (1 : Int32)) (wr (wr μ (c1 + 6) (rd μ 233 x2.toNatClampNeg).toNatClampNeg (vp_nar .boolean (0 : Int32))) (c1 + 5) (rd μ 233 x2.toNatClampNeg).toNatClampNeg (rd (wr μ (c1 + 6) (rd μ 233 x2.toNatClampNeg).toNatClampNeg (vp_nar .boolean (0 : Int32))) 234 x2.toNatClampNeg))
else none
else none)
else none
else none)
else none
else none)
def fX3_tellTo (n : Nat) (c1 : Nat) (μ : hb_m) : Option (hb_m) :=
lX3_tellTo_2 n c1 (fun x2_2 m2 =>
some m2) n (0 : Int32) μ
abbrev rmX3_tellTo : Room := { frames := 0, cells := 0, slots := 0, locals := 0 }
set_option maxRecDepth 100000 in
set_option maxHeartbeats 4000000 in
theorem tX3_tellTo {l : Launch} {D : va_G} {ad : Nat → Nat} {dA : Nat → ClassId} {t1 t2 : Nat} (hI : hb_I 241 ad) (n : Nat) (c1 : Nat) (h1 : hx_H c1) (μ : hb_m) : hb_M (hb_Qv vwCl kdX 241 ad D dA) l yX3_tellTo wsX3_tellTo rmX3_tellTo vwCl kdX 241 ad D dA (tbX t1 t2) nwX [.ref (ad 231), .ref (ad c1)] μ (fX3_tellTo n c1 μ) := by
  refine hb_start (cc := cX3_tellTo) (maxL := 4) (ret := none) (by decide) rfl hI (Nat.le_of_ble_eq_true rfl) [(0, .ref (ad 231)), (1, .ref (ad c1))] rfl ?_
  intro p e s m args below meth c hC hr
  have L2 : ∀ (k : Int32 → hb_m → Option (hb_m)) (hk : ∀ (x2 : Int32) (μ : hb_m), hb_V p l e rmX3_tellTo s m args below meth c 4 vwCl kdX 241 ad D dA (hb_Qv vwCl kdX 241 ad D dA) μ 68 [(2, .int x2), (0, .ref (ad 231)), (1, .ref (ad c1))] [] (k x2 μ)) (f : Nat) (x2 : Int32) (μ : hb_m), hb_V p l e rmX3_tellTo s m args below meth c 4 vwCl kdX 241 ad D dA (hb_Qv vwCl kdX 241 ad D dA) μ 2 [(2, .int x2), (0, .ref (ad 231)), (1, .ref (ad c1))] [] (lX3_tellTo_2 n c1 k f x2 μ) := by
    intro k hk f
    induction f with
    | zero => intro x2 μ; rw [lX3_tellTo_2]; exact hr_none
    | succ f ih =>
      intro x2 μ
      rw [lX3_tellTo_2]
      refine hr_iload_n hC dX3_tellTo_2 rfl 0 rfl ?_
      refine hr_aload_n hC dX3_tellTo_3 rfl 1 rfl ?_
      refine hr_getI hC hiX3_tellTo_X3 rfl kx231 4 (by decide) hmX3_tellTo_25 rfl dX3_tellTo_4 ?_
      refine hr_icmp_ge (tgt := 68) hC dX3_tellTo_7 (by decide) (fun _ => ?_) (fun _ => ?_)
      · refine hr_sub (lv' := [(2, .int x2), (0, .ref (ad 231)), (1, .ref (ad c1))]) [0, 1, 2] rfl ?_
        exact hk _ _
      · refine hr_aload_n hC dX3_tellTo_10 rfl 1 rfl ?_
        refine hr_getR hC hiX3_tellTo_X3 rfl kx231 5 (by decide) hmX3_tellTo_28 rfl dX3_tellTo_11 ?_
        refine hr_iload_n hC dX3_tellTo_14 rfl 0 rfl ?_
        refine hr_iald hC kx233 dX3_tellTo_15 ?_
        refine hr_istore_n (lv' := [(3, .int (rd μ 233 x2.toNatClampNeg)), (2, .int x2), (0, .ref (ad 231)), (1, .ref (ad c1))]) hC dX3_tellTo_16 rfl (by decide) rfl ?_
        refine hr_aload_n hC dX3_tellTo_17 rfl 3 rfl ?_
        refine hr_getR hC hiX3_tellTo_X2 rfl (kxH h1) 6 (by decide) hmX3_tellTo_71 rfl dX3_tellTo_18 ?_
        refine hr_iload_n hC dX3_tellTo_21 rfl 0 rfl ?_
        refine hr_aload_n hC dX3_tellTo_22 rfl 2 rfl ?_
        refine hr_getR hC hiX3_tellTo_X3 rfl kx231 6 (by decide) hmX3_tellTo_32 rfl dX3_tellTo_23 ?_
        refine hr_iload_n hC dX3_tellTo_26 rfl 1 rfl ?_
        refine hr_iald hC kx234 dX3_tellTo_27 ?_
        refine hr_bipush (v := -5) hC dX3_tellTo_28 (by decide) ?_
        refine hr_icmp_ne (tgt := 37) hC dX3_tellTo_30 (by decide) (fun _ => ?_) (fun _ => ?_)
        · refine hr_iconst (v := 1) hC dX3_tellTo_33 (by decide) ?_
          refine hr_goto (tgt := 38) hC dX3_tellTo_34 (by decide) ?_
          refine hr_zast hC (kxH6 h1) dX3_tellTo_38 ?_
          refine hr_aload_n hC dX3_tellTo_39 rfl 2 rfl ?_
          refine hr_getR hC hiX3_tellTo_X3 rfl kx231 6 (by decide) hmX3_tellTo_32 rfl dX3_tellTo_40 ?_
          refine hr_iload_n hC dX3_tellTo_43 rfl 1 rfl ?_
          refine hr_iald hC kx234 dX3_tellTo_44 ?_
          refine hr_bipush (v := -5) hC dX3_tellTo_45 (by decide) ?_
          refine hr_icmp_eq (tgt := 62) hC dX3_tellTo_47 (by decide) (fun _ => ?_) (fun _ => ?_)
          · refine hr_iinc (v := (x2 + (1 : Int32))) (lv' := [(2, .int (x2 + (1 : Int32))), (3, .int (rd μ 233 x2.toNatClampNeg)), (0, .ref (ad 231)), (1, .ref (ad c1))]) (kx := 1) hC dX3_tellTo_62 rfl rfl (by decide) rfl ?_
            refine hr_goto (tgt := 2) hC dX3_tellTo_65 (by decide) ?_
            refine hr_sub (lv' := [(2, .int (x2 + (1 : Int32))), (0, .ref (ad 231)), (1, .ref (ad c1))]) [0, 2, 3] rfl ?_
            exact ih _ _
          · refine hr_aload_n hC dX3_tellTo_50 rfl 3 rfl ?_
            refine hr_getR hC hiX3_tellTo_X2 rfl (kxH h1) 5 (by decide) hmX3_tellTo_75 rfl dX3_tellTo_51 ?_
            refine hr_iload_n hC dX3_tellTo_54 rfl 0 rfl ?_
            refine hr_aload_n hC dX3_tellTo_55 rfl 2 rfl ?_
            refine hr_getR hC hiX3_tellTo_X3 rfl kx231 6 (by decide) hmX3_tellTo_32 rfl dX3_tellTo_56 ?_
            refine hr_iload_n hC dX3_tellTo_59 rfl 1 rfl ?_
            refine hr_iald hC kx234 dX3_tellTo_60 ?_
            refine hr_iast hC (kxH5 h1) dX3_tellTo_61 ?_
            refine hr_iinc (v := (x2 + (1 : Int32))) (lv' := [(2, .int (x2 + (1 : Int32))), (3, .int (rd μ 233 x2.toNatClampNeg)), (0, .ref (ad 231)), (1, .ref (ad c1))]) (kx := 1) hC dX3_tellTo_62 rfl rfl (by decide) rfl ?_
            refine hr_goto (tgt := 2) hC dX3_tellTo_65 (by decide) ?_
            refine hr_sub (lv' := [(2, .int (x2 + (1 : Int32))), (0, .ref (ad 231)), (1, .ref (ad c1))]) [0, 2, 3] rfl ?_
            exact ih _ _
        · refine hr_iconst (v := 0) hC dX3_tellTo_37 (by decide) ?_
          refine hr_zast hC (kxH6 h1) dX3_tellTo_38 ?_
          refine hr_aload_n hC dX3_tellTo_39 rfl 2 rfl ?_
          refine hr_getR hC hiX3_tellTo_X3 rfl kx231 6 (by decide) hmX3_tellTo_32 rfl dX3_tellTo_40 ?_
          refine hr_iload_n hC dX3_tellTo_43 rfl 1 rfl ?_
          refine hr_iald hC kx234 dX3_tellTo_44 ?_
          refine hr_bipush (v := -5) hC dX3_tellTo_45 (by decide) ?_
          refine hr_icmp_eq (tgt := 62) hC dX3_tellTo_47 (by decide) (fun _ => ?_) (fun _ => ?_)
          · refine hr_iinc (v := (x2 + (1 : Int32))) (lv' := [(2, .int (x2 + (1 : Int32))), (3, .int (rd μ 233 x2.toNatClampNeg)), (0, .ref (ad 231)), (1, .ref (ad c1))]) (kx := 1) hC dX3_tellTo_62 rfl rfl (by decide) rfl ?_
            refine hr_goto (tgt := 2) hC dX3_tellTo_65 (by decide) ?_
            refine hr_sub (lv' := [(2, .int (x2 + (1 : Int32))), (0, .ref (ad 231)), (1, .ref (ad c1))]) [0, 2, 3] rfl ?_
            exact ih _ _
          · refine hr_aload_n hC dX3_tellTo_50 rfl 3 rfl ?_
            refine hr_getR hC hiX3_tellTo_X2 rfl (kxH h1) 5 (by decide) hmX3_tellTo_75 rfl dX3_tellTo_51 ?_
            refine hr_iload_n hC dX3_tellTo_54 rfl 0 rfl ?_
            refine hr_aload_n hC dX3_tellTo_55 rfl 2 rfl ?_
            refine hr_getR hC hiX3_tellTo_X3 rfl kx231 6 (by decide) hmX3_tellTo_32 rfl dX3_tellTo_56 ?_
            refine hr_iload_n hC dX3_tellTo_59 rfl 1 rfl ?_
            refine hr_iald hC kx234 dX3_tellTo_60 ?_
            refine hr_iast hC (kxH5 h1) dX3_tellTo_61 ?_
            refine hr_iinc (v := (x2 + (1 : Int32))) (lv' := [(2, .int (x2 + (1 : Int32))), (3, .int (rd μ 233 x2.toNatClampNeg)), (0, .ref (ad 231)), (1, .ref (ad c1))]) (kx := 1) hC dX3_tellTo_62 rfl rfl (by decide) rfl ?_
            refine hr_goto (tgt := 2) hC dX3_tellTo_65 (by decide) ?_
            refine hr_sub (lv' := [(2, .int (x2 + (1 : Int32))), (0, .ref (ad 231)), (1, .ref (ad c1))]) [0, 2, 3] rfl ?_
            exact ih _ _
  rw [fX3_tellTo]
  refine hr_iconst (v := 0) hC dX3_tellTo_0 (by decide) ?_
  refine hr_istore_n (lv' := [(2, .int (0 : Int32)), (0, .ref (ad 231)), (1, .ref (ad c1))]) hC dX3_tellTo_1 rfl (by decide) rfl ?_
  refine hr_sub (lv' := [(2, .int (0 : Int32)), (0, .ref (ad 231)), (1, .ref (ad c1))]) [0, 1, 2] rfl ?_
  refine L2 _ (fun x2_2 m2 => ?_) _ _ _
  exact hr_vret hC hr dX3_tellTo_68
theorem hmX5_readAll_33 : Cond.fieldLink RX5 33 "HeatBills" "text" "LHeatBills$ReadingsText;" ∈ wsX5_readAll := List.mem_of_getElem? (i := 1) rfl
theorem hmX5_readAll_116 : Cond.fieldLink RX5 116 "HeatBills$ReadingsText" "at" "I" ∈ wsX5_readAll := List.mem_of_getElem? (i := 2) rfl
theorem hmX5_readAll_12 : Cond.fieldLink RX5 12 "HeatBills" "now" "LHeatBills$House;" ∈ wsX5_readAll := List.mem_of_getElem? (i := 3) rfl
theorem hmX5_readAll_26 : Cond.fieldLink RX5 26 "HeatBills" "history" "LHeatBills$History;" ∈ wsX5_readAll := List.mem_of_getElem? (i := 4) rfl
theorem hmX5_readAll_129 : Cond.fieldLink RX5 129 "HeatBills$ReadingsText" "toldCount" "I" ∈ wsX5_readAll := List.mem_of_getElem? (i := 5) rfl
theorem hiX5_readAll_X5 : ∀ w ∈ wsX50, w ∈ wsX5_readAll := fun _ h => List.mem_cons_of_mem _ (List.mem_append_left _ (List.mem_append_left _ (List.mem_append_left _ (List.mem_append_left _ (List.mem_append_right _ h)))))
theorem hiX5_readAll_X3 : ∀ w ∈ wsX30, w ∈ wsX5_readAll := fun _ h => List.mem_cons_of_mem _ (List.mem_append_left _ (List.mem_append_left _ (List.mem_append_left _ (List.mem_append_right _ h))))
def fX5_readAll (n : Nat) (μ : hb_m) : Option (Int32 × hb_m) :=
bi (fX3_parse n μ) (fun r4 m4 =>
if r4 = 0 then
(some (((-100 : Int32) - (rd m4 231 2)), m4))
else
(bi (fX3_namesOnlyDevicesOf n 0 m4) (fun r29 m29 =>
if r29 = 0 then
(some ((-1 : Int32), m29))
else
(bi (fX3_isPossibleFor n 0 m29) (fun r45 m45 =>
if r45 = 0 then
(some ((-4 : Int32), m45))
else
(bv (fX1_remember n 0 m45) (fun m62 =>
bv (fX3_tellTo n 0 m62) (fun m73 =>
some ((rd m73 231 4), m73)))))))))
abbrev rmX5_readAll : Room := { frames := 5, cells := 0, slots := 0, locals := 105 }
set_option maxRecDepth 100000 in
set_option maxHeartbeats 4000000 in
theorem tX5_readAll {l : Launch} {D : va_G} {ad : Nat → Nat} {dA : Nat → ClassId} {t1 t2 : Nat} (hI : hb_I 241 ad) (n : Nat) (μ : hb_m) : hb_M (hb_Qi vwCl kdX 241 ad D dA) l yX5_readAll wsX5_readAll rmX5_readAll vwCl kdX 241 ad D dA (tbX t1 t2) nwX [.ref (ad 228)] μ (fX5_readAll n μ) := by
  refine hb_start (cc := cX5_readAll) (maxL := 1) (ret := (some .int)) (by decide) rfl hI (Nat.le_of_ble_eq_true rfl) [(0, .ref (ad 228))] rfl ?_
  intro p e s m args below meth c hC hr
  rw [fX5_readAll]
  refine hr_aload_n hC dX5_readAll_0 rfl 0 rfl ?_
  refine hr_getR hC hiX5_readAll_X5 rfl kx228 4 (by decide) hmX5_readAll_33 rfl dX5_readAll_1 ?_
  refine hr_callVi (As := []) (k := 231) hC rfl (tX3_parse (t1 := t1) (t2 := t2) hI n μ) (cwV 0 hC.1.2.2.2.2 gX5_readAll_X3_parse rfl rfl rfl (by decide +kernel) ⟨Nat.le_of_ble_eq_true rfl, Nat.le_of_ble_eq_true rfl⟩) kx231 rfl rfl rfl (Nat.le_of_ble_eq_true rfl) dX5_readAll_4 (fun r4 m4 => ?_)
  refine hr_if_ne (tgt := 21) hC dX5_readAll_7 (by decide) (fun _ => ?_) (fun _ => ?_)
  · refine hr_bipush (v := -100) hC dX5_readAll_10 (by decide) ?_
    refine hr_aload_n hC dX5_readAll_12 rfl 0 rfl ?_
    refine hr_getR hC hiX5_readAll_X5 rfl kx228 4 (by decide) hmX5_readAll_33 rfl dX5_readAll_13 ?_
    refine hr_getI hC hiX5_readAll_X3 rfl kx231 2 (by decide) hmX5_readAll_116 rfl dX5_readAll_16 ?_
    refine hr_isub hC dX5_readAll_19 ?_
    exact hr_ireti hC hr dX5_readAll_20
  · refine hr_aload_n hC dX5_readAll_21 rfl 0 rfl ?_
    refine hr_getR hC hiX5_readAll_X5 rfl kx228 4 (by decide) hmX5_readAll_33 rfl dX5_readAll_22 ?_
    refine hr_aload_n hC dX5_readAll_25 rfl 0 rfl ?_
    refine hr_getR hC hiX5_readAll_X5 rfl kx228 0 (by decide) hmX5_readAll_12 rfl dX5_readAll_26 ?_
    refine hr_callVi (As := [.ref (ad 0)]) (k := 231) hC rfl (tX3_namesOnlyDevicesOf (t1 := t1) (t2 := t2) hI n 0 hx_H0 m4) (cwV 1 hC.1.2.2.2.2 gX5_readAll_X3_namesOnlyDevicesOf rfl rfl rfl (by decide +kernel) ⟨Nat.le_of_ble_eq_true rfl, Nat.le_of_ble_eq_true rfl⟩) kx231 rfl rfl rfl (Nat.le_of_ble_eq_true rfl) dX5_readAll_29 (fun r29 m29 => ?_)
    refine hr_if_ne (tgt := 37) hC dX5_readAll_32 (by decide) (fun _ => ?_) (fun _ => ?_)
    · refine hr_iconst (v := -1) hC dX5_readAll_35 (by decide) ?_
      exact hr_ireti hC hr dX5_readAll_36
    · refine hr_aload_n hC dX5_readAll_37 rfl 0 rfl ?_
      refine hr_getR hC hiX5_readAll_X5 rfl kx228 4 (by decide) hmX5_readAll_33 rfl dX5_readAll_38 ?_
      refine hr_aload_n hC dX5_readAll_41 rfl 0 rfl ?_
      refine hr_getR hC hiX5_readAll_X5 rfl kx228 0 (by decide) hmX5_readAll_12 rfl dX5_readAll_42 ?_
      refine hr_callVi (As := [.ref (ad 0)]) (k := 231) hC rfl (tX3_isPossibleFor (t1 := t1) (t2 := t2) hI n 0 hx_H0 m29) (cwV 1 hC.1.2.2.2.2 gX5_readAll_X3_isPossibleFor rfl rfl rfl (by decide +kernel) ⟨Nat.le_of_ble_eq_true rfl, Nat.le_of_ble_eq_true rfl⟩) kx231 rfl rfl rfl (Nat.le_of_ble_eq_true rfl) dX5_readAll_45 (fun r45 m45 => ?_)
      refine hr_if_ne (tgt := 54) hC dX5_readAll_48 (by decide) (fun _ => ?_) (fun _ => ?_)
      · refine hr_bipush (v := -4) hC dX5_readAll_51 (by decide) ?_
        exact hr_ireti hC hr dX5_readAll_53
      · refine hr_aload_n hC dX5_readAll_54 rfl 0 rfl ?_
        refine hr_getR hC hiX5_readAll_X5 rfl kx228 3 (by decide) hmX5_readAll_26 rfl dX5_readAll_55 ?_
        refine hr_aload_n hC dX5_readAll_58 rfl 0 rfl ?_
        refine hr_getR hC hiX5_readAll_X5 rfl kx228 0 (by decide) hmX5_readAll_12 rfl dX5_readAll_59 ?_
        refine hr_callVv (As := [.ref (ad 0)]) (k := 229) hC rfl (tX1_remember (t1 := t1) (t2 := t2) hI n 0 hx_H0 m45) (cwV 1 hC.1.2.2.2.2 gX5_readAll_X1_remember rfl rfl rfl (by decide +kernel) ⟨Nat.le_of_ble_eq_true rfl, Nat.le_of_ble_eq_true rfl⟩) kx229 rfl rfl rfl (Nat.le_of_ble_eq_true rfl) dX5_readAll_62 (fun m62 => ?_)
        refine hr_aload_n hC dX5_readAll_65 rfl 0 rfl ?_
        refine hr_getR hC hiX5_readAll_X5 rfl kx228 4 (by decide) hmX5_readAll_33 rfl dX5_readAll_66 ?_
        refine hr_aload_n hC dX5_readAll_69 rfl 0 rfl ?_
        refine hr_getR hC hiX5_readAll_X5 rfl kx228 0 (by decide) hmX5_readAll_12 rfl dX5_readAll_70 ?_
        refine hr_callVv (As := [.ref (ad 0)]) (k := 231) hC rfl (tX3_tellTo (t1 := t1) (t2 := t2) hI n 0 hx_H0 m62) (cwV 1 hC.1.2.2.2.2 gX5_readAll_X3_tellTo rfl rfl rfl (by decide +kernel) ⟨Nat.le_of_ble_eq_true rfl, Nat.le_of_ble_eq_true rfl⟩) kx231 rfl rfl rfl (Nat.le_of_ble_eq_true rfl) dX5_readAll_73 (fun m73 => ?_)
        refine hr_aload_n hC dX5_readAll_76 rfl 0 rfl ?_
        refine hr_getR hC hiX5_readAll_X5 rfl kx228 4 (by decide) hmX5_readAll_33 rfl dX5_readAll_77 ?_
        refine hr_getI hC hiX5_readAll_X3 rfl kx231 4 (by decide) hmX5_readAll_129 rfl dX5_readAll_80 ?_
        exact hr_ireti hC hr dX5_readAll_83
theorem hmX4_hasMove_21 : Cond.fieldLink RX4 21 "HeatBills$Year" "moveMonths" "[I" ∈ wsX4_hasMove := List.mem_of_getElem? (i := 1) rfl
theorem hiX4_hasMove_X4 : ∀ w ∈ wsX40, w ∈ wsX4_hasMove := fun _ h => List.mem_cons_of_mem _ (List.mem_append_right _ h)
def fX4_hasMove (n : Nat) (c0 : Nat) (p1 : Int32) (μ : hb_m) : Option (Int32 × hb_m) :=
if ib p1 8 then
if (rd μ (c0 + 1) p1.toNatClampNeg) = (-5 : Int32) then
(some ((0 : Int32), μ))
else
(some ((1 : Int32), μ))
else none
abbrev rmX4_hasMove : Room := { frames := 0, cells := 0, slots := 0, locals := 0 }
set_option maxRecDepth 100000 in
set_option maxHeartbeats 4000000 in
theorem tX4_hasMove {l : Launch} {D : va_G} {ad : Nat → Nat} {dA : Nat → ClassId} {t1 t2 : Nat} (hI : hb_I 241 ad) (n : Nat) (c0 : Nat) (h0 : hx_Y c0) (p1 : Int32) (μ : hb_m) : hb_M (hb_Qi vwCl kdX 241 ad D dA) l yX4_hasMove wsX4_hasMove rmX4_hasMove vwCl kdX 241 ad D dA (tbX t1 t2) nwX [.ref (ad c0), .int p1] μ (fX4_hasMove n c0 p1 μ) := by
  refine hb_start (cc := cX4_hasMove) (maxL := 2) (ret := (some .boolean)) (by decide) rfl hI (Nat.le_of_ble_eq_true rfl) [(0, .ref (ad c0)), (1, .int p1)] rfl ?_
  intro p e s m args below meth c hC hr
  rw [fX4_hasMove]
  refine hr_aload_n hC dX4_hasMove_0 rfl 0 rfl ?_
  refine hr_getR hC hiX4_hasMove_X4 rfl (kxY h0) 3 (by decide) hmX4_hasMove_21 rfl dX4_hasMove_1 ?_
  refine hr_iload_n hC dX4_hasMove_4 rfl 1 rfl ?_
  refine hr_iald hC (kxY1 h0) dX4_hasMove_5 ?_
  refine hr_bipush (v := -5) hC dX4_hasMove_6 (by decide) ?_
  refine hr_icmp_eq (tgt := 15) hC dX4_hasMove_8 (by decide) (fun _ => ?_) (fun _ => ?_)
  · refine hr_iconst (v := 0) hC dX4_hasMove_15 (by decide) ?_
    exact hr_iretz hC hr dX4_hasMove_16 rfl
  · refine hr_iconst (v := 1) hC dX4_hasMove_11 (by decide) ?_
    refine hr_goto (tgt := 16) hC dX4_hasMove_12 (by decide) ?_
    exact hr_iretz hC hr dX4_hasMove_16 rfl
theorem hmX5_weightsAhead_237 : Cond.fieldLink RX5 237 "HeatBills" "MONTH_WEIGHTS" "[I" ∈ wsX5_weightsAhead := List.mem_of_getElem? (i := 1) rfl
def lX5_weightsAhead_4 (n : Nat) (p0 : Int32) (k : Int32 → Int32 → hb_m → Option (Int32 × hb_m)) : Nat → Int32 → Int32 → hb_m → Option (Int32 × hb_m)
  | 0, _, _, _ => none
  | f + 1, x2, x1, μ => if p0 ≤ x2 then
(k x2 x1 μ)
else
(if (Int32.ofNat 12) ≤ x2 then
(k x2 x1 μ)
else
(if ib x2 12 then
lX5_weightsAhead_4 n p0 k f (x2 + (1 : Int32)) (x1 + (tbX2f x2.toNatClampNeg)) μ
else none))
def fX5_weightsAhead (n : Nat) (p0 : Int32) (μ : hb_m) : Option (Int32 × hb_m) :=
lX5_weightsAhead_4 n p0 (fun x2_4 x1_4 m4 =>
some (x1_4, m4)) n (0 : Int32) (0 : Int32) μ
abbrev rmX5_weightsAhead : Room := { frames := 0, cells := 0, slots := 0, locals := 0 }
set_option maxRecDepth 100000 in
set_option maxHeartbeats 4000000 in
theorem tX5_weightsAhead {l : Launch} {D : va_G} {ad : Nat → Nat} {dA : Nat → ClassId} {t1 t2 : Nat} (hI : hb_I 241 ad) (n : Nat) (p0 : Int32) (μ : hb_m) : hb_M (hb_Qi vwCl kdX 241 ad D dA) l yX5_weightsAhead wsX5_weightsAhead rmX5_weightsAhead vwCl kdX 241 ad D dA (tbX t1 t2) nwX [.int p0] μ (fX5_weightsAhead n p0 μ) := by
  refine hb_start (cc := cX5_weightsAhead) (maxL := 3) (ret := (some .int)) (by decide) rfl hI (Nat.le_of_ble_eq_true rfl) [(0, .int p0)] rfl ?_
  intro p e s m args below meth c hC hr
  have L4 : ∀ (k : Int32 → Int32 → hb_m → Option (Int32 × hb_m)) (hk : ∀ (x2 : Int32) (x1 : Int32) (μ : hb_m), hb_V p l e rmX5_weightsAhead s m args below meth c 3 vwCl kdX 241 ad D dA (hb_Qi vwCl kdX 241 ad D dA) μ 31 [(2, .int x2), (1, .int x1), (0, .int p0)] [] (k x2 x1 μ)) (f : Nat) (x2 : Int32) (x1 : Int32) (μ : hb_m), hb_V p l e rmX5_weightsAhead s m args below meth c 3 vwCl kdX 241 ad D dA (hb_Qi vwCl kdX 241 ad D dA) μ 4 [(2, .int x2), (1, .int x1), (0, .int p0)] [] (lX5_weightsAhead_4 n p0 k f x2 x1 μ) := by
    intro k hk f
    induction f with
    | zero => intro x2 x1 μ; rw [lX5_weightsAhead_4]; exact hr_none
    | succ f ih =>
      intro x2 x1 μ
      rw [lX5_weightsAhead_4]
      refine hr_iload_n hC dX5_weightsAhead_4 rfl 0 rfl ?_
      refine hr_iload_n hC dX5_weightsAhead_5 rfl 2 rfl ?_
      refine hr_icmp_ge (tgt := 31) hC dX5_weightsAhead_6 (by decide) (fun _ => ?_) (fun _ => ?_)
      · refine hr_sub (lv' := [(2, .int x2), (1, .int x1), (0, .int p0)]) [0, 1, 2] rfl ?_
        exact hk _ _ _
      · refine hr_iload_n hC dX5_weightsAhead_9 rfl 0 rfl ?_
        refine hr_gets (q := tbX2q t2) hC (tbX2m t1 t2) hmX5_weightsAhead_237 dX5_weightsAhead_10 ?_
        refine hr_tlen (q := tbX2q t2) hC (tbX2m t1 t2) rfl dX5_weightsAhead_13 ?_
        refine hr_icmp_ge (tgt := 31) hC dX5_weightsAhead_14 (by decide) (fun _ => ?_) (fun _ => ?_)
        · refine hr_sub (lv' := [(2, .int x2), (1, .int x1), (0, .int p0)]) [0, 1, 2] rfl ?_
          exact hk _ _ _
        · refine hr_iload_n hC dX5_weightsAhead_17 rfl 1 rfl ?_
          refine hr_gets (q := tbX2q t2) hC (tbX2m t1 t2) hmX5_weightsAhead_237 dX5_weightsAhead_18 ?_
          refine hr_iload_n hC dX5_weightsAhead_21 rfl 0 rfl ?_
          refine hr_tald (q := tbX2q t2) hC (tbX2m t1 t2) rfl dX5_weightsAhead_22 ?_
          refine hr_iadd hC dX5_weightsAhead_23 ?_
          refine hr_istore_n (lv' := [(1, .int (x1 + (tbX2f x2.toNatClampNeg))), (2, .int x2), (0, .int p0)]) hC dX5_weightsAhead_24 rfl (by decide) rfl ?_
          refine hr_iinc (v := (x2 + (1 : Int32))) (lv' := [(2, .int (x2 + (1 : Int32))), (1, .int (x1 + (tbX2f x2.toNatClampNeg))), (0, .int p0)]) (kx := 1) hC dX5_weightsAhead_25 rfl rfl (by decide) rfl ?_
          refine hr_goto (tgt := 4) hC dX5_weightsAhead_28 (by decide) ?_
          refine hr_sub (lv' := [(2, .int (x2 + (1 : Int32))), (1, .int (x1 + (tbX2f x2.toNatClampNeg))), (0, .int p0)]) [0, 1, 2] rfl ?_
          exact ih _ _ _
  rw [fX5_weightsAhead]
  refine hr_iconst (v := 0) hC dX5_weightsAhead_0 (by decide) ?_
  refine hr_istore_n (lv' := [(1, .int (0 : Int32)), (0, .int p0)]) hC dX5_weightsAhead_1 rfl (by decide) rfl ?_
  refine hr_iconst (v := 0) hC dX5_weightsAhead_2 (by decide) ?_
  refine hr_istore_n (lv' := [(2, .int (0 : Int32)), (1, .int (0 : Int32)), (0, .int p0)]) hC dX5_weightsAhead_3 rfl (by decide) rfl ?_
  refine hr_sub (lv' := [(2, .int (0 : Int32)), (1, .int (0 : Int32)), (0, .int p0)]) [0, 1, 2] rfl ?_
  refine L4 _ (fun x2_4 x1_4 m4 => ?_) _ _ _ _
  refine hr_iload_n hC dX5_weightsAhead_31 rfl 1 rfl ?_
  exact hr_ireti hC hr dX5_weightsAhead_32
theorem hmX5_move_12 : Cond.fieldLink RX5 12 "HeatBills" "now" "LHeatBills$House;" ∈ wsX5_move := List.mem_of_getElem? (i := 1) rfl
theorem hmX5_move_63 : Cond.fieldLink RX5 63 "HeatBills$House" "openYear" "LHeatBills$Year;" ∈ wsX5_move := List.mem_of_getElem? (i := 2) rfl
theorem hmX5_move_26 : Cond.fieldLink RX5 26 "HeatBills" "history" "LHeatBills$History;" ∈ wsX5_move := List.mem_of_getElem? (i := 3) rfl
theorem hmX5_move_135 : Cond.fieldLink RX5 135 "HeatBills$Year" "moveMonths" "[I" ∈ wsX5_move := List.mem_of_getElem? (i := 4) rfl
theorem hiX5_move_X5 : ∀ w ∈ wsX50, w ∈ wsX5_move := fun _ h => List.mem_cons_of_mem _ (List.mem_append_left _ (List.mem_append_left _ (List.mem_append_left _ (List.mem_append_right _ h))))
theorem hiX5_move_X2 : ∀ w ∈ wsX20, w ∈ wsX5_move := fun _ h => List.mem_cons_of_mem _ (List.mem_append_left _ (List.mem_append_left _ (List.mem_append_right _ h)))
theorem hiX5_move_X4 : ∀ w ∈ wsX40, w ∈ wsX5_move := fun _ h => List.mem_cons_of_mem _ (List.mem_append_left _ (List.mem_append_right _ h))
def fX5_move (n : Nat) (p1 : Int32) (p2 : Int32) (μ : hb_m) : Option (Int32 × hb_m) :=
bi (fX2_hasFlat n 0 p1 μ) (fun r5 m5 =>
if r5 = 0 then
(some ((-1 : Int32), m5))
else
(if p2 < (1 : Int32) then
(some ((-2 : Int32), m5))
else
(if p2 < (12 : Int32) then
(bi (fX4_hasMove n (0 + 8) p1 m5) (fun r35 m35 =>
if r35 = 0 then
(bv (fX1_remember n 0 m35) (fun m52 =>
if ib p1 8 then
bi (fX5_weightsAhead n p2 (wr m52 ((0 + 8) + 1) p1.toNatClampNeg p2)) (fun r69 m69 =>
some (r69, m69))
else none))
else
(some ((-4 : Int32), m35))))
else
(some ((-2 : Int32), m5)))))
abbrev rmX5_move : Room := { frames := 4, cells := 0, slots := 0, locals := 94 }
set_option maxRecDepth 100000 in
set_option maxHeartbeats 4000000 in
theorem tX5_move {l : Launch} {D : va_G} {ad : Nat → Nat} {dA : Nat → ClassId} {t1 t2 : Nat} (hI : hb_I 241 ad) (n : Nat) (p1 : Int32) (p2 : Int32) (μ : hb_m) : hb_M (hb_Qi vwCl kdX 241 ad D dA) l yX5_move wsX5_move rmX5_move vwCl kdX 241 ad D dA (tbX t1 t2) nwX [.ref (ad 228), .int p1, .int p2] μ (fX5_move n p1 p2 μ) := by
  refine hb_start (cc := cX5_move) (maxL := 3) (ret := (some .int)) (by decide) rfl hI (Nat.le_of_ble_eq_true rfl) [(0, .ref (ad 228)), (1, .int p1), (2, .int p2)] rfl ?_
  intro p e s m args below meth c hC hr
  rw [fX5_move]
  refine hr_aload_n hC dX5_move_0 rfl 0 rfl ?_
  refine hr_getR hC hiX5_move_X5 rfl kx228 0 (by decide) hmX5_move_12 rfl dX5_move_1 ?_
  refine hr_iload_n hC dX5_move_4 rfl 1 rfl ?_
  refine hr_callVi (As := [.int p1]) (k := 0) hC rfl (tX2_hasFlat (t1 := t1) (t2 := t2) hI n 0 hx_H0 p1 μ) (cwV 1 hC.1.2.2.2.2 gX5_move_X2_hasFlat rfl rfl rfl (by decide +kernel) ⟨Nat.le_of_ble_eq_true rfl, Nat.le_of_ble_eq_true rfl⟩) (kxH hx_H0) rfl rfl rfl (Nat.le_of_ble_eq_true rfl) dX5_move_5 (fun r5 m5 => ?_)
  refine hr_if_ne (tgt := 13) hC dX5_move_8 (by decide) (fun _ => ?_) (fun _ => ?_)
  · refine hr_iconst (v := -1) hC dX5_move_11 (by decide) ?_
    exact hr_ireti hC hr dX5_move_12
  · refine hr_iload_n hC dX5_move_13 rfl 2 rfl ?_
    refine hr_iconst (v := 1) hC dX5_move_14 (by decide) ?_
    refine hr_icmp_lt (tgt := 24) hC dX5_move_15 (by decide) (fun _ => ?_) (fun _ => ?_)
    · refine hr_bipush (v := -2) hC dX5_move_24 (by decide) ?_
      exact hr_ireti hC hr dX5_move_26
    · refine hr_iload_n hC dX5_move_18 rfl 2 rfl ?_
      refine hr_bipush (v := 12) hC dX5_move_19 (by decide) ?_
      refine hr_icmp_lt (tgt := 27) hC dX5_move_21 (by decide) (fun _ => ?_) (fun _ => ?_)
      · refine hr_aload_n hC dX5_move_27 rfl 0 rfl ?_
        refine hr_getR hC hiX5_move_X5 rfl kx228 0 (by decide) hmX5_move_12 rfl dX5_move_28 ?_
        refine hr_getR hC hiX5_move_X2 rfl (kxH hx_H0) 9 (by decide) hmX5_move_63 rfl dX5_move_31 ?_
        refine hr_iload_n hC dX5_move_34 rfl 1 rfl ?_
        refine hr_callVi (As := [.int p1]) (k := (0 + 8)) hC rfl (tX4_hasMove (t1 := t1) (t2 := t2) hI n (0 + 8) (hx_Yo hx_H0) p1 m5) (cwV 1 hC.1.2.2.2.2 gX5_move_X4_hasMove rfl rfl rfl (by decide +kernel) ⟨Nat.le_of_ble_eq_true rfl, Nat.le_of_ble_eq_true rfl⟩) (kxY (hx_Yo hx_H0)) rfl rfl rfl (Nat.le_of_ble_eq_true rfl) dX5_move_35 (fun r35 m35 => ?_)
        refine hr_if_eq (tgt := 44) hC dX5_move_38 (by decide) (fun _ => ?_) (fun _ => ?_)
        · refine hr_aload_n hC dX5_move_44 rfl 0 rfl ?_
          refine hr_getR hC hiX5_move_X5 rfl kx228 3 (by decide) hmX5_move_26 rfl dX5_move_45 ?_
          refine hr_aload_n hC dX5_move_48 rfl 0 rfl ?_
          refine hr_getR hC hiX5_move_X5 rfl kx228 0 (by decide) hmX5_move_12 rfl dX5_move_49 ?_
          refine hr_callVv (As := [.ref (ad 0)]) (k := 229) hC rfl (tX1_remember (t1 := t1) (t2 := t2) hI n 0 hx_H0 m35) (cwV 1 hC.1.2.2.2.2 gX5_move_X1_remember rfl rfl rfl (by decide +kernel) ⟨Nat.le_of_ble_eq_true rfl, Nat.le_of_ble_eq_true rfl⟩) kx229 rfl rfl rfl (Nat.le_of_ble_eq_true rfl) dX5_move_52 (fun m52 => ?_)
          refine hr_aload_n hC dX5_move_55 rfl 0 rfl ?_
          refine hr_getR hC hiX5_move_X5 rfl kx228 0 (by decide) hmX5_move_12 rfl dX5_move_56 ?_
          refine hr_getR hC hiX5_move_X2 rfl (kxH hx_H0) 9 (by decide) hmX5_move_63 rfl dX5_move_59 ?_
          refine hr_getR hC hiX5_move_X4 rfl (kxY (hx_Yo hx_H0)) 3 (by decide) hmX5_move_135 rfl dX5_move_62 ?_
          refine hr_iload_n hC dX5_move_65 rfl 1 rfl ?_
          refine hr_iload_n hC dX5_move_66 rfl 2 rfl ?_
          refine hr_iast hC (kxY1 (hx_Yo hx_H0)) dX5_move_67 ?_
          refine hr_iload_n hC dX5_move_68 rfl 2 rfl ?_
          refine hr_callSi (As := [.int p2]) hC rfl (tX5_weightsAhead (t1 := t1) (t2 := t2) hI n p2 (wr m52 ((0 + 8) + 1) p1.toNatClampNeg p2)) (va_cwS 1 hC.1.2.2.2.2 gX5_move_X5_weightsAhead rfl rfl rfl (by decide +kernel) ⟨Nat.le_of_ble_eq_true rfl, Nat.le_of_ble_eq_true rfl⟩) rfl (Nat.le_of_ble_eq_true rfl) dX5_move_69 (fun r69 m69 => ?_)
          exact hr_ireti hC hr dX5_move_72
        · refine hr_bipush (v := -4) hC dX5_move_41 (by decide) ?_
          exact hr_ireti hC hr dX5_move_43
      · refine hr_bipush (v := -2) hC dX5_move_24 (by decide) ?_
        exact hr_ireti hC hr dX5_move_26
theorem hmX5_between_12 : Cond.fieldLink RX5 12 "HeatBills" "now" "LHeatBills$House;" ∈ wsX5_between := List.mem_of_getElem? (i := 1) rfl
theorem hmX5_between_63 : Cond.fieldLink RX5 63 "HeatBills$House" "openYear" "LHeatBills$Year;" ∈ wsX5_between := List.mem_of_getElem? (i := 2) rfl
theorem hmX5_between_141 : Cond.fieldLink RX5 141 "HeatBills$Year" "parts" "[I" ∈ wsX5_between := List.mem_of_getElem? (i := 3) rfl
theorem hmX5_between_26 : Cond.fieldLink RX5 26 "HeatBills" "history" "LHeatBills$History;" ∈ wsX5_between := List.mem_of_getElem? (i := 4) rfl
theorem hiX5_between_X5 : ∀ w ∈ wsX50, w ∈ wsX5_between := fun _ h => List.mem_cons_of_mem _ (List.mem_append_left _ (List.mem_append_left _ (List.mem_append_left _ (List.mem_append_right _ h))))
theorem hiX5_between_X2 : ∀ w ∈ wsX20, w ∈ wsX5_between := fun _ h => List.mem_cons_of_mem _ (List.mem_append_left _ (List.mem_append_left _ (List.mem_append_right _ h)))
theorem hiX5_between_X4 : ∀ w ∈ wsX40, w ∈ wsX5_between := fun _ h => List.mem_cons_of_mem _ (List.mem_append_left _ (List.mem_append_right _ h))
def fX5_between (n : Nat) (p1 : Int32) (p2 : Int32) (μ : hb_m) : Option (Int32 × hb_m) :=
bi (fX2_hasFlat n 0 p1 μ) (fun r5 m5 =>
if r5 = 0 then
(some ((-1 : Int32), m5))
else
(if p2 < 0 then
(some ((-2 : Int32), m5))
else
(if p2 ≤ (1000 : Int32) then
(bi (fX4_hasMove n (0 + 8) p1 m5) (fun r35 m35 =>
if r35 = 0 then
(some ((-4 : Int32), m35))
else
(if ib p1 8 then
if (rd m35 ((0 + 8) + 2) p1.toNatClampNeg) = p2 then
(some ((-5 : Int32), m35))
else
(bv (fX1_remember n 0 m35) (fun m73 =>
if ib p1 8 then
if (rd m35 ((0 + 8) + 2) p1.toNatClampNeg) = (-5 : Int32) then
(some ((1 : Int32), (wr m73 ((0 + 8) + 2) p1.toNatClampNeg p2)))
else
(some ((0 : Int32), (wr m73 ((0 + 8) + 2) p1.toNatClampNeg p2)))
else none))
else none)))
else
(some ((-2 : Int32), m5)))))
abbrev rmX5_between : Room := { frames := 4, cells := 0, slots := 0, locals := 94 }
set_option maxRecDepth 100000 in
set_option maxHeartbeats 4000000 in
theorem tX5_between {l : Launch} {D : va_G} {ad : Nat → Nat} {dA : Nat → ClassId} {t1 t2 : Nat} (hI : hb_I 241 ad) (n : Nat) (p1 : Int32) (p2 : Int32) (μ : hb_m) : hb_M (hb_Qi vwCl kdX 241 ad D dA) l yX5_between wsX5_between rmX5_between vwCl kdX 241 ad D dA (tbX t1 t2) nwX [.ref (ad 228), .int p1, .int p2] μ (fX5_between n p1 p2 μ) := by
  refine hb_start (cc := cX5_between) (maxL := 4) (ret := (some .int)) (by decide) rfl hI (Nat.le_of_ble_eq_true rfl) [(0, .ref (ad 228)), (1, .int p1), (2, .int p2)] rfl ?_
  intro p e s m args below meth c hC hr
  rw [fX5_between]
  refine hr_aload_n hC dX5_between_0 rfl 0 rfl ?_
  refine hr_getR hC hiX5_between_X5 rfl kx228 0 (by decide) hmX5_between_12 rfl dX5_between_1 ?_
  refine hr_iload_n hC dX5_between_4 rfl 1 rfl ?_
  refine hr_callVi (As := [.int p1]) (k := 0) hC rfl (tX2_hasFlat (t1 := t1) (t2 := t2) hI n 0 hx_H0 p1 μ) (cwV 1 hC.1.2.2.2.2 gX5_between_X2_hasFlat rfl rfl rfl (by decide +kernel) ⟨Nat.le_of_ble_eq_true rfl, Nat.le_of_ble_eq_true rfl⟩) (kxH hx_H0) rfl rfl rfl (Nat.le_of_ble_eq_true rfl) dX5_between_5 (fun r5 m5 => ?_)
  refine hr_if_ne (tgt := 13) hC dX5_between_8 (by decide) (fun _ => ?_) (fun _ => ?_)
  · refine hr_iconst (v := -1) hC dX5_between_11 (by decide) ?_
    exact hr_ireti hC hr dX5_between_12
  · refine hr_iload_n hC dX5_between_13 rfl 2 rfl ?_
    refine hr_if_lt (tgt := 24) hC dX5_between_14 (by decide) (fun _ => ?_) (fun _ => ?_)
    · refine hr_bipush (v := -2) hC dX5_between_24 (by decide) ?_
      exact hr_ireti hC hr dX5_between_26
    · refine hr_iload_n hC dX5_between_17 rfl 2 rfl ?_
      refine hr_sipush (v := 1000) hC dX5_between_18 (by decide) ?_
      refine hr_icmp_le (tgt := 27) hC dX5_between_21 (by decide) (fun _ => ?_) (fun _ => ?_)
      · refine hr_aload_n hC dX5_between_27 rfl 0 rfl ?_
        refine hr_getR hC hiX5_between_X5 rfl kx228 0 (by decide) hmX5_between_12 rfl dX5_between_28 ?_
        refine hr_getR hC hiX5_between_X2 rfl (kxH hx_H0) 9 (by decide) hmX5_between_63 rfl dX5_between_31 ?_
        refine hr_iload_n hC dX5_between_34 rfl 1 rfl ?_
        refine hr_callVi (As := [.int p1]) (k := (0 + 8)) hC rfl (tX4_hasMove (t1 := t1) (t2 := t2) hI n (0 + 8) (hx_Yo hx_H0) p1 m5) (cwV 1 hC.1.2.2.2.2 gX5_between_X4_hasMove rfl rfl rfl (by decide +kernel) ⟨Nat.le_of_ble_eq_true rfl, Nat.le_of_ble_eq_true rfl⟩) (kxY (hx_Yo hx_H0)) rfl rfl rfl (Nat.le_of_ble_eq_true rfl) dX5_between_35 (fun r35 m35 => ?_)
        refine hr_if_ne (tgt := 44) hC dX5_between_38 (by decide) (fun _ => ?_) (fun _ => ?_)
        · refine hr_bipush (v := -4) hC dX5_between_41 (by decide) ?_
          exact hr_ireti hC hr dX5_between_43
        · refine hr_aload_n hC dX5_between_44 rfl 0 rfl ?_
          refine hr_getR hC hiX5_between_X5 rfl kx228 0 (by decide) hmX5_between_12 rfl dX5_between_45 ?_
          refine hr_getR hC hiX5_between_X2 rfl (kxH hx_H0) 9 (by decide) hmX5_between_63 rfl dX5_between_48 ?_
          refine hr_getR hC hiX5_between_X4 rfl (kxY (hx_Yo hx_H0)) 4 (by decide) hmX5_between_141 rfl dX5_between_51 ?_
          refine hr_iload_n hC dX5_between_54 rfl 1 rfl ?_
          refine hr_iald hC (kxY2 (hx_Yo hx_H0)) dX5_between_55 ?_
          refine hr_istore_n (lv' := [(3, .int (rd m35 ((0 + 8) + 2) p1.toNatClampNeg)), (0, .ref (ad 228)), (1, .int p1), (2, .int p2)]) hC dX5_between_56 rfl (by decide) rfl ?_
          refine hr_iload_n hC dX5_between_57 rfl 0 rfl ?_
          refine hr_iload_n hC dX5_between_58 rfl 3 rfl ?_
          refine hr_icmp_ne (tgt := 65) hC dX5_between_59 (by decide) (fun _ => ?_) (fun _ => ?_)
          · refine hr_bipush (v := -5) hC dX5_between_62 (by decide) ?_
            exact hr_ireti hC hr dX5_between_64
          · refine hr_aload_n hC dX5_between_65 rfl 1 rfl ?_
            refine hr_getR hC hiX5_between_X5 rfl kx228 3 (by decide) hmX5_between_26 rfl dX5_between_66 ?_
            refine hr_aload_n hC dX5_between_69 rfl 1 rfl ?_
            refine hr_getR hC hiX5_between_X5 rfl kx228 0 (by decide) hmX5_between_12 rfl dX5_between_70 ?_
            refine hr_callVv (As := [.ref (ad 0)]) (k := 229) hC rfl (tX1_remember (t1 := t1) (t2 := t2) hI n 0 hx_H0 m35) (cwV 1 hC.1.2.2.2.2 gX5_between_X1_remember rfl rfl rfl (by decide +kernel) ⟨Nat.le_of_ble_eq_true rfl, Nat.le_of_ble_eq_true rfl⟩) kx229 rfl rfl rfl (Nat.le_of_ble_eq_true rfl) dX5_between_73 (fun m73 => ?_)
            refine hr_aload_n hC dX5_between_76 rfl 1 rfl ?_
            refine hr_getR hC hiX5_between_X5 rfl kx228 0 (by decide) hmX5_between_12 rfl dX5_between_77 ?_
            refine hr_getR hC hiX5_between_X2 rfl (kxH hx_H0) 9 (by decide) hmX5_between_63 rfl dX5_between_80 ?_
            refine hr_getR hC hiX5_between_X4 rfl (kxY (hx_Yo hx_H0)) 4 (by decide) hmX5_between_141 rfl dX5_between_83 ?_
            refine hr_iload_n hC dX5_between_86 rfl 2 rfl ?_
            refine hr_iload_n hC dX5_between_87 rfl 3 rfl ?_
            refine hr_iast hC (kxY2 (hx_Yo hx_H0)) dX5_between_88 ?_
            refine hr_iload_n hC dX5_between_89 rfl 0 rfl ?_
            refine hr_bipush (v := -5) hC dX5_between_90 (by decide) ?_
            refine hr_icmp_ne (tgt := 99) hC dX5_between_92 (by decide) (fun _ => ?_) (fun _ => ?_)
            · refine hr_iconst (v := 1) hC dX5_between_95 (by decide) ?_
              refine hr_goto (tgt := 100) hC dX5_between_96 (by decide) ?_
              exact hr_ireti hC hr dX5_between_100
            · refine hr_iconst (v := 0) hC dX5_between_99 (by decide) ?_
              exact hr_ireti hC hr dX5_between_100
      · refine hr_bipush (v := -2) hC dX5_between_24 (by decide) ?_
        exact hr_ireti hC hr dX5_between_26
def lJ7_fill_53178_5 (n : Nat) (c0 : Nat) (p1 : Int32) (v3 : Int32) (k : Int32 → hb_m → Option (hb_m)) : Nat → Int32 → hb_m → Option (hb_m)
  | 0, _, _ => none
  | f + 1, x2, μ => if v3 ≤ x2 then
(k x2 μ)
else
(if ib x2 (hx_n c0) then
lJ7_fill_53178_5 n c0 p1 v3 k f (x2 + (1 : Int32)) (wr μ c0 x2.toNatClampNeg p1)
else none)
def fJ7_fill_53178 (n : Nat) (c0 : Nat) (p1 : Int32) (μ : hb_m) : Option (hb_m) :=
lJ7_fill_53178_5 n c0 p1 (Int32.ofNat (hx_n c0)) (fun x2_5 m5 =>
some m5) n (0 : Int32) μ
abbrev rmJ7_fill_53178 : Room := { frames := 0, cells := 0, slots := 0, locals := 0 }
set_option maxRecDepth 100000 in
set_option maxHeartbeats 4000000 in
theorem tJ7_fill_53178 {l : Launch} {D : va_G} {ad : Nat → Nat} {dA : Nat → ClassId} {t1 t2 : Nat} (hI : hb_I 241 ad) (n : Nat) (c0 : Nat) (h0 : hx_I c0) (p1 : Int32) (μ : hb_m) : hb_M (hb_Qv vwCl kdX 241 ad D dA) l yJ7_fill_53178 wsJ7_fill_53178 rmJ7_fill_53178 vwCl kdX 241 ad D dA (tbX t1 t2) nwX [.ref (ad c0), .int p1] μ (fJ7_fill_53178 n c0 p1 μ) := by
  refine hb_start (cc := cJ7_fill_53178) (maxL := 4) (ret := none) (by decide) rfl hI (Nat.le_of_ble_eq_true rfl) [(0, .ref (ad c0)), (1, .int p1)] rfl ?_
  intro p e s m args below meth c hC hr
  have L5 : ∀ (v3 : Int32) (k : Int32 → hb_m → Option (hb_m)) (hk : ∀ (x2 : Int32) (μ : hb_m), hb_V p l e rmJ7_fill_53178 s m args below meth c 4 vwCl kdX 241 ad D dA (hb_Qv vwCl kdX 241 ad D dA) μ 20 [(3, .int v3), (2, .int x2), (0, .ref (ad c0)), (1, .int p1)] [] (k x2 μ)) (f : Nat) (x2 : Int32) (μ : hb_m), hb_V p l e rmJ7_fill_53178 s m args below meth c 4 vwCl kdX 241 ad D dA (hb_Qv vwCl kdX 241 ad D dA) μ 5 [(3, .int v3), (2, .int x2), (0, .ref (ad c0)), (1, .int p1)] [] (lJ7_fill_53178_5 n c0 p1 v3 k f x2 μ) := by
    intro v3 k hk f
    induction f with
    | zero => intro x2 μ; rw [lJ7_fill_53178_5]; exact hr_none
    | succ f ih =>
      intro x2 μ
      rw [lJ7_fill_53178_5]
      refine hr_iload_n hC dJ7_fill_53178_5 rfl 1 rfl ?_
      refine hr_iload_n hC dJ7_fill_53178_6 rfl 0 rfl ?_
      refine hr_icmp_ge (tgt := 20) hC dJ7_fill_53178_7 (by decide) (fun _ => ?_) (fun _ => ?_)
      · refine hr_sub (lv' := [(3, .int v3), (2, .int x2), (0, .ref (ad c0)), (1, .int p1)]) [0, 1, 2, 3] rfl ?_
        exact hk _ _
      · refine hr_aload_n hC dJ7_fill_53178_10 rfl 2 rfl ?_
        refine hr_iload_n hC dJ7_fill_53178_11 rfl 1 rfl ?_
        refine hr_iload_n hC dJ7_fill_53178_12 rfl 3 rfl ?_
        refine hr_iast hC h0 dJ7_fill_53178_13 ?_
        refine hr_iinc (v := (x2 + (1 : Int32))) (lv' := [(2, .int (x2 + (1 : Int32))), (3, .int v3), (0, .ref (ad c0)), (1, .int p1)]) (kx := 1) hC dJ7_fill_53178_14 rfl rfl (by decide) rfl ?_
        refine hr_goto (tgt := 5) hC dJ7_fill_53178_17 (by decide) ?_
        refine hr_sub (lv' := [(3, .int v3), (2, .int (x2 + (1 : Int32))), (0, .ref (ad c0)), (1, .int p1)]) [1, 0, 2, 3] rfl ?_
        exact ih _ _
  rw [fJ7_fill_53178]
  refine hr_iconst (v := 0) hC dJ7_fill_53178_0 (by decide) ?_
  refine hr_istore_n (lv' := [(2, .int (0 : Int32)), (0, .ref (ad c0)), (1, .int p1)]) hC dJ7_fill_53178_1 rfl (by decide) rfl ?_
  refine hr_aload_n hC dJ7_fill_53178_2 rfl 1 rfl ?_
  refine hr_alen hC h0 dJ7_fill_53178_3 ?_
  refine hr_istore_n (lv' := [(3, .int (Int32.ofNat (hx_n c0))), (2, .int (0 : Int32)), (0, .ref (ad c0)), (1, .int p1)]) hC dJ7_fill_53178_4 rfl (by decide) rfl ?_
  refine hr_sub (lv' := [(3, .int (Int32.ofNat (hx_n c0))), (2, .int (0 : Int32)), (0, .ref (ad c0)), (1, .int p1)]) [0, 1, 2, 3] rfl ?_
  refine L5 _ _ (fun x2_5 m5 => ?_) _ _ _
  exact hr_vret hC hr dJ7_fill_53178_20
def lX5_sumOf_4 (n : Nat) (c0 : Nat) (p1 : Int32) (k : Int32 → Int32 → hb_m → Option (Int32 × hb_m)) : Nat → Int32 → Int32 → hb_m → Option (Int32 × hb_m)
  | 0, _, _, _ => none
  | f + 1, x3, x2, μ => if p1 ≤ x3 then
(k x3 x2 μ)
else
(if (Int32.ofNat (hx_n c0)) ≤ x3 then
(k x3 x2 μ)
else
(if ib x3 (hx_n c0) then
lX5_sumOf_4 n c0 p1 k f (x3 + (1 : Int32)) (x2 + (rd μ c0 x3.toNatClampNeg)) μ
else none))
def fX5_sumOf (n : Nat) (c0 : Nat) (p1 : Int32) (μ : hb_m) : Option (Int32 × hb_m) :=
lX5_sumOf_4 n c0 p1 (fun x3_4 x2_4 m4 =>
some (x2_4, m4)) n (0 : Int32) (0 : Int32) μ
abbrev rmX5_sumOf : Room := { frames := 0, cells := 0, slots := 0, locals := 0 }
set_option maxRecDepth 100000 in
set_option maxHeartbeats 4000000 in
theorem tX5_sumOf {l : Launch} {D : va_G} {ad : Nat → Nat} {dA : Nat → ClassId} {t1 t2 : Nat} (hI : hb_I 241 ad) (n : Nat) (c0 : Nat) (h0 : hx_I c0) (p1 : Int32) (μ : hb_m) : hb_M (hb_Qi vwCl kdX 241 ad D dA) l yX5_sumOf wsX5_sumOf rmX5_sumOf vwCl kdX 241 ad D dA (tbX t1 t2) nwX [.ref (ad c0), .int p1] μ (fX5_sumOf n c0 p1 μ) := by
  refine hb_start (cc := cX5_sumOf) (maxL := 4) (ret := (some .int)) (by decide) rfl hI (Nat.le_of_ble_eq_true rfl) [(0, .ref (ad c0)), (1, .int p1)] rfl ?_
  intro p e s m args below meth c hC hr
  have L4 : ∀ (k : Int32 → Int32 → hb_m → Option (Int32 × hb_m)) (hk : ∀ (x3 : Int32) (x2 : Int32) (μ : hb_m), hb_V p l e rmX5_sumOf s m args below meth c 4 vwCl kdX 241 ad D dA (hb_Qi vwCl kdX 241 ad D dA) μ 27 [(3, .int x3), (2, .int x2), (0, .ref (ad c0)), (1, .int p1)] [] (k x3 x2 μ)) (f : Nat) (x3 : Int32) (x2 : Int32) (μ : hb_m), hb_V p l e rmX5_sumOf s m args below meth c 4 vwCl kdX 241 ad D dA (hb_Qi vwCl kdX 241 ad D dA) μ 4 [(3, .int x3), (2, .int x2), (0, .ref (ad c0)), (1, .int p1)] [] (lX5_sumOf_4 n c0 p1 k f x3 x2 μ) := by
    intro k hk f
    induction f with
    | zero => intro x3 x2 μ; rw [lX5_sumOf_4]; exact hr_none
    | succ f ih =>
      intro x3 x2 μ
      rw [lX5_sumOf_4]
      refine hr_iload_n hC dX5_sumOf_4 rfl 0 rfl ?_
      refine hr_iload_n hC dX5_sumOf_5 rfl 3 rfl ?_
      refine hr_icmp_ge (tgt := 27) hC dX5_sumOf_6 (by decide) (fun _ => ?_) (fun _ => ?_)
      · refine hr_sub (lv' := [(3, .int x3), (2, .int x2), (0, .ref (ad c0)), (1, .int p1)]) [0, 1, 2, 3] rfl ?_
        exact hk _ _ _
      · refine hr_iload_n hC dX5_sumOf_9 rfl 0 rfl ?_
        refine hr_aload_n hC dX5_sumOf_10 rfl 2 rfl ?_
        refine hr_alen hC h0 dX5_sumOf_11 ?_
        refine hr_icmp_ge (tgt := 27) hC dX5_sumOf_12 (by decide) (fun _ => ?_) (fun _ => ?_)
        · refine hr_sub (lv' := [(3, .int x3), (2, .int x2), (0, .ref (ad c0)), (1, .int p1)]) [0, 1, 2, 3] rfl ?_
          exact hk _ _ _
        · refine hr_iload_n hC dX5_sumOf_15 rfl 1 rfl ?_
          refine hr_aload_n hC dX5_sumOf_16 rfl 2 rfl ?_
          refine hr_iload_n hC dX5_sumOf_17 rfl 0 rfl ?_
          refine hr_iald hC h0 dX5_sumOf_18 ?_
          refine hr_iadd hC dX5_sumOf_19 ?_
          refine hr_istore_n (lv' := [(2, .int (x2 + (rd μ c0 x3.toNatClampNeg))), (3, .int x3), (0, .ref (ad c0)), (1, .int p1)]) hC dX5_sumOf_20 rfl (by decide) rfl ?_
          refine hr_iinc (v := (x3 + (1 : Int32))) (lv' := [(3, .int (x3 + (1 : Int32))), (2, .int (x2 + (rd μ c0 x3.toNatClampNeg))), (0, .ref (ad c0)), (1, .int p1)]) (kx := 1) hC dX5_sumOf_21 rfl rfl (by decide) rfl ?_
          refine hr_goto (tgt := 4) hC dX5_sumOf_24 (by decide) ?_
          refine hr_sub (lv' := [(3, .int (x3 + (1 : Int32))), (2, .int (x2 + (rd μ c0 x3.toNatClampNeg))), (0, .ref (ad c0)), (1, .int p1)]) [0, 1, 2, 3] rfl ?_
          exact ih _ _ _
  rw [fX5_sumOf]
  refine hr_iconst (v := 0) hC dX5_sumOf_0 (by decide) ?_
  refine hr_istore_n (lv' := [(2, .int (0 : Int32)), (0, .ref (ad c0)), (1, .int p1)]) hC dX5_sumOf_1 rfl (by decide) rfl ?_
  refine hr_iconst (v := 0) hC dX5_sumOf_2 (by decide) ?_
  refine hr_istore_n (lv' := [(3, .int (0 : Int32)), (2, .int (0 : Int32)), (0, .ref (ad c0)), (1, .int p1)]) hC dX5_sumOf_3 rfl (by decide) rfl ?_
  refine hr_sub (lv' := [(3, .int (0 : Int32)), (2, .int (0 : Int32)), (0, .ref (ad c0)), (1, .int p1)]) [0, 1, 2, 3] rfl ?_
  refine L4 _ (fun x3_4 x2_4 m4 => ?_) _ _ _ _
  refine hr_iload_n hC dX5_sumOf_27 rfl 1 rfl ?_
  exact hr_ireti hC hr dX5_sumOf_28
theorem hmX0_giveCoin_24 : Cond.fieldLink RX0 24 "HeatBills$Accounts" "remainders" "[J" ∈ wsX0_giveCoin := List.mem_of_getElem? (i := 1) rfl
theorem hmX0_giveCoin_75 : Cond.constantLong RX0 75 (-1) ∈ wsX0_giveCoin := List.mem_of_getElem? (i := 2) rfl
theorem hiX0_giveCoin_X0 : ∀ w ∈ wsX00, w ∈ wsX0_giveCoin := fun _ h => List.mem_cons_of_mem _ (List.mem_append_right _ h)
def lX0_giveCoin_5 (n : Nat) (c1 : Nat) (p2 : Int32) (k : Int32 → Int32 → hb_m → Option (hb_m)) : Nat → Int32 → Int32 → hb_m → Option (hb_m)
  | 0, _, _, _ => none
  | f + 1, x4, x3, μ => if p2 ≤ x4 then
(k x4 x3 μ)
else
(if ib x4 8 then
if ib x3 8 then
if (lg_cmp (rL μ 240 x4.toNatClampNeg) (rL μ 240 x3.toNatClampNeg)) ≤ 0 then
(lX0_giveCoin_5 n c1 p2 k f (x4 + (1 : Int32)) x3 μ)
else
(lX0_giveCoin_5 n c1 p2 k f (x4 + (1 : Int32)) x4 μ)
else none
else none)
def fX0_giveCoin (n : Nat) (c1 : Nat) (p2 : Int32) (μ : hb_m) : Option (hb_m) :=
lX0_giveCoin_5 n c1 p2 (fun x4_5 x3_5 m5 =>
if ib x3_5 (hx_n c1) then
if ib x3_5 (hx_n c1) then
if ib x3_5 8 then
some (wL (wr m5 c1 x3_5.toNatClampNeg ((rd m5 c1 x3_5.toNatClampNeg) + (1 : Int32))) 240 x3_5.toNatClampNeg (-1 : Int64))
else none
else none
else none) n (1 : Int32) (0 : Int32) μ
abbrev rmX0_giveCoin : Room := { frames := 0, cells := 0, slots := 0, locals := 0 }
set_option maxRecDepth 100000 in
set_option maxHeartbeats 4000000 in
theorem tX0_giveCoin {l : Launch} {D : va_G} {ad : Nat → Nat} {dA : Nat → ClassId} {t1 t2 : Nat} (hI : hb_I 241 ad) (n : Nat) (c1 : Nat) (h1 : hx_I c1) (p2 : Int32) (μ : hb_m) : hb_M (hb_Qv vwCl kdX 241 ad D dA) l yX0_giveCoin wsX0_giveCoin rmX0_giveCoin vwCl kdX 241 ad D dA (tbX t1 t2) nwX [.ref (ad 235), .ref (ad c1), .int p2] μ (fX0_giveCoin n c1 p2 μ) := by
  refine hb_start (cc := cX0_giveCoin) (maxL := 5) (ret := none) (by decide) rfl hI (Nat.le_of_ble_eq_true rfl) [(0, .ref (ad 235)), (1, .ref (ad c1)), (2, .int p2)] rfl ?_
  intro p e s m args below meth c hC hr
  have L5 : ∀ (k : Int32 → Int32 → hb_m → Option (hb_m)) (hk : ∀ (x4 : Int32) (x3 : Int32) (μ : hb_m), hb_V p l e rmX0_giveCoin s m args below meth c 5 vwCl kdX 241 ad D dA (hb_Qv vwCl kdX 241 ad D dA) μ 37 [(4, .int x4), (3, .int x3), (0, .ref (ad 235)), (1, .ref (ad c1)), (2, .int p2)] [] (k x4 x3 μ)) (f : Nat) (x4 : Int32) (x3 : Int32) (μ : hb_m), hb_V p l e rmX0_giveCoin s m args below meth c 5 vwCl kdX 241 ad D dA (hb_Qv vwCl kdX 241 ad D dA) μ 5 [(4, .int x4), (3, .int x3), (0, .ref (ad 235)), (1, .ref (ad c1)), (2, .int p2)] [] (lX0_giveCoin_5 n c1 p2 k f x4 x3 μ) := by
    intro k hk f
    induction f with
    | zero => intro x4 x3 μ; rw [lX0_giveCoin_5]; exact hr_none
    | succ f ih =>
      intro x4 x3 μ
      rw [lX0_giveCoin_5]
      refine hr_iload hC dX0_giveCoin_5 0 rfl ?_
      refine hr_iload_n hC dX0_giveCoin_7 rfl 4 rfl ?_
      refine hr_icmp_ge (tgt := 37) hC dX0_giveCoin_8 (by decide) (fun _ => ?_) (fun _ => ?_)
      · refine hr_sub (lv' := [(4, .int x4), (3, .int x3), (0, .ref (ad 235)), (1, .ref (ad c1)), (2, .int p2)]) [0, 1, 2, 3, 4] rfl ?_
        exact hk _ _ _
      · refine hr_aload_n hC dX0_giveCoin_11 rfl 2 rfl ?_
        refine hr_getR hC hiX0_giveCoin_X0 rfl kx235 4 (by decide) hmX0_giveCoin_24 rfl dX0_giveCoin_12 ?_
        refine hr_iload hC dX0_giveCoin_15 0 rfl ?_
        refine hr_lald hC kx240 dX0_giveCoin_17 ?_
        refine hr_aload_n hC dX0_giveCoin_18 rfl 2 rfl ?_
        refine hr_getR hC hiX0_giveCoin_X0 rfl kx235 4 (by decide) hmX0_giveCoin_24 rfl dX0_giveCoin_19 ?_
        refine hr_iload_n hC dX0_giveCoin_22 rfl 1 rfl ?_
        refine hr_lald hC kx240 dX0_giveCoin_23 ?_
        refine hr_lcmp hC dX0_giveCoin_24 ?_
        refine hr_if_le (tgt := 31) hC dX0_giveCoin_25 (by decide) (fun _ => ?_) (fun _ => ?_)
        · refine hr_iinc (v := (x4 + (1 : Int32))) (lv' := [(4, .int (x4 + (1 : Int32))), (3, .int x3), (0, .ref (ad 235)), (1, .ref (ad c1)), (2, .int p2)]) (kx := 0) hC dX0_giveCoin_31 rfl rfl (by decide) rfl ?_
          refine hr_goto (tgt := 5) hC dX0_giveCoin_34 (by decide) ?_
          refine hr_sub (lv' := [(4, .int (x4 + (1 : Int32))), (3, .int x3), (0, .ref (ad 235)), (1, .ref (ad c1)), (2, .int p2)]) [0, 1, 2, 3, 4] rfl ?_
          exact ih _ _ _
        · refine hr_iload hC dX0_giveCoin_28 0 rfl ?_
          refine hr_istore_n (lv' := [(3, .int x4), (4, .int x4), (0, .ref (ad 235)), (1, .ref (ad c1)), (2, .int p2)]) hC dX0_giveCoin_30 rfl (by decide) rfl ?_
          refine hr_iinc (v := (x4 + (1 : Int32))) (lv' := [(4, .int (x4 + (1 : Int32))), (3, .int x4), (0, .ref (ad 235)), (1, .ref (ad c1)), (2, .int p2)]) (kx := 1) hC dX0_giveCoin_31 rfl rfl (by decide) rfl ?_
          refine hr_goto (tgt := 5) hC dX0_giveCoin_34 (by decide) ?_
          refine hr_sub (lv' := [(4, .int (x4 + (1 : Int32))), (3, .int x4), (0, .ref (ad 235)), (1, .ref (ad c1)), (2, .int p2)]) [0, 1, 2, 3, 4] rfl ?_
          exact ih _ _ _
  rw [fX0_giveCoin]
  refine hr_iconst (v := 0) hC dX0_giveCoin_0 (by decide) ?_
  refine hr_istore_n (lv' := [(3, .int (0 : Int32)), (0, .ref (ad 235)), (1, .ref (ad c1)), (2, .int p2)]) hC dX0_giveCoin_1 rfl (by decide) rfl ?_
  refine hr_iconst (v := 1) hC dX0_giveCoin_2 (by decide) ?_
  refine hr_istore (lv' := [(4, .int (1 : Int32)), (3, .int (0 : Int32)), (0, .ref (ad 235)), (1, .ref (ad c1)), (2, .int p2)]) hC dX0_giveCoin_3 (by decide) rfl ?_
  refine hr_sub (lv' := [(4, .int (1 : Int32)), (3, .int (0 : Int32)), (0, .ref (ad 235)), (1, .ref (ad c1)), (2, .int p2)]) [0, 1, 2, 3, 4] rfl ?_
  refine L5 _ (fun x4_5 x3_5 m5 => ?_) _ _ _ _
  refine hr_aload_n hC dX0_giveCoin_37 rfl 3 rfl ?_
  refine hr_iload_n hC dX0_giveCoin_38 rfl 1 rfl ?_
  refine hr_dup2 hC dX0_giveCoin_39 rfl rfl ?_
  refine hr_iald hC h1 dX0_giveCoin_40 ?_
  refine hr_iconst (v := 1) hC dX0_giveCoin_41 (by decide) ?_
  refine hr_iadd hC dX0_giveCoin_42 ?_
  refine hr_iast hC h1 dX0_giveCoin_43 ?_
  refine hr_aload_n hC dX0_giveCoin_44 rfl 2 rfl ?_
  refine hr_getR hC hiX0_giveCoin_X0 rfl kx235 4 (by decide) hmX0_giveCoin_24 rfl dX0_giveCoin_45 ?_
  refine hr_iload_n hC dX0_giveCoin_48 rfl 1 rfl ?_
  refine hr_ldc2 (v := -1) hC dX0_giveCoin_49 hmX0_giveCoin_75 ?_
  refine hr_last hC kx240 dX0_giveCoin_52 ?_
  exact hr_vret hC hr dX0_giveCoin_53
theorem hmX0_shareByParts_ini_X5_sumOf : Cond.initialized yX5_sumOf.cls ∈ wsX0_shareByParts := List.mem_of_getElem? (i := 3) rfl
theorem hmX0_shareByParts_sta_X5_sumOf : Cond.static yX5_sumOf ∈ wsX0_shareByParts := List.mem_of_getElem? (i := 2) rfl
theorem hmX0_shareByParts_24 : Cond.fieldLink RX0 24 "HeatBills$Accounts" "remainders" "[J" ∈ wsX0_shareByParts := List.mem_of_getElem? (i := 1) rfl
theorem hiX0_shareByParts_X0 : ∀ w ∈ wsX00, w ∈ wsX0_shareByParts := fun _ h => List.mem_cons_of_mem _ (List.mem_append_right _ h)
def lX0_shareByParts_20 (n : Nat) (p1 : Int32) (c2 : Nat) (p3 : Int32) (c4 : Nat) (v5 : Int32) (k : Int32 → Int32 → hb_m → Option (hb_m)) : Nat → Int32 → Int32 → hb_m → Option (hb_m)
  | 0, _, _, _ => none
  | f + 1, x7, x6, μ => if p3 ≤ x7 then
(k x7 x6 μ)
else
(if ib x7 (hx_n c2) then
if v5.toInt64 = 0 then none else
if ib x7 (hx_n c4) then
if v5.toInt64 = 0 then none else
if ib x7 8 then
if ib x7 (hx_n c4) then
lX0_shareByParts_20 n p1 c2 p3 c4 v5 k f (x7 + (1 : Int32)) (x6 - (rd (wL (wr μ c4 x7.toNatClampNeg ((p1.toInt64 * (rd μ c2 x7.toNatClampNeg).toInt64) / v5.toInt64).toInt32) 240 x7.toNatClampNeg ((p1.toInt64 * (rd μ c2 x7.toNatClampNeg).toInt64) - (p1.toInt64 * (rd μ c2 x7.toNatClampNeg).toInt64) / v5.toInt64 * v5.toInt64)) c4 x7.toNatClampNeg)) (wL (wr μ c4 x7.toNatClampNeg ((p1.toInt64 * (rd μ c2 x7.toNatClampNeg).toInt64) / v5.toInt64).toInt32) 240 x7.toNatClampNeg ((p1.toInt64 * (rd μ c2 x7.toNatClampNeg).toInt64) - (p1.toInt64 * (rd μ c2 x7.toNatClampNeg).toInt64) / v5.toInt64 * v5.toInt64))
else none
else none
else none
else none)
def lX0_shareByParts_80 (n : Nat) (p1 : Int32) (c2 : Nat) (p3 : Int32) (c4 : Nat) (v6 : Int32) (k : Int32 → hb_m → Option (hb_m)) : Nat → Int32 → hb_m → Option (hb_m)
  | 0, _, _ => none
  | f + 1, x7, μ => if v6 ≤ x7 then
(k x7 μ)
else
(bv (fX0_giveCoin n c4 p3 μ) (fun m91 =>
lX0_shareByParts_80 n p1 c2 p3 c4 v6 k f (x7 + (1 : Int32)) m91))
def fX0_shareByParts (n : Nat) (p1 : Int32) (c2 : Nat) (p3 : Int32) (c4 : Nat) (μ : hb_m) : Option (hb_m) :=
bi (fX5_sumOf n c2 p3 μ) (fun r2 m2 =>
if (1 : Int32) ≤ r2 then
(lX0_shareByParts_20 n p1 c2 p3 c4 r2 (fun x7_20 x6_20 m20 =>
lX0_shareByParts_80 n p1 c2 p3 c4 x6_20 (fun x7_80 m80 =>
some m80) n (0 : Int32) m20) n (0 : Int32) p1 m2)
else
(some m2))
abbrev rmX0_shareByParts : Room := { frames := 1, cells := 0, slots := 0, locals := 24 }
set_option maxRecDepth 100000 in
set_option maxHeartbeats 4000000 in
theorem tX0_shareByParts {l : Launch} {D : va_G} {ad : Nat → Nat} {dA : Nat → ClassId} {t1 t2 : Nat} (hI : hb_I 241 ad) (n : Nat) (p1 : Int32) (c2 : Nat) (h2 : hx_I c2) (p3 : Int32) (c4 : Nat) (h4 : hx_I c4) (μ : hb_m) : hb_M (hb_Qv vwCl kdX 241 ad D dA) l yX0_shareByParts wsX0_shareByParts rmX0_shareByParts vwCl kdX 241 ad D dA (tbX t1 t2) nwX [.ref (ad 235), .int p1, .ref (ad c2), .int p3, .ref (ad c4)] μ (fX0_shareByParts n p1 c2 p3 c4 μ) := by
  refine hb_start (cc := cX0_shareByParts) (maxL := 10) (ret := none) (by decide) rfl hI (Nat.le_of_ble_eq_true rfl) [(0, .ref (ad 235)), (1, .int p1), (2, .ref (ad c2)), (3, .int p3), (4, .ref (ad c4))] rfl ?_
  intro p e s m args below meth c hC hr
  have L20 : ∀ (v5 : Int32) (k : Int32 → Int32 → hb_m → Option (hb_m)) (hk : ∀ (x7 : Int32) (x6 : Int32) (μ : hb_m), hb_V p l e rmX0_shareByParts s m args below meth c 10 vwCl kdX 241 ad D dA (hb_Qv vwCl kdX 241 ad D dA) μ 77 [(7, .int x7), (6, .int x6), (5, .int v5), (0, .ref (ad 235)), (1, .int p1), (2, .ref (ad c2)), (3, .int p3), (4, .ref (ad c4))] [] (k x7 x6 μ)) (f : Nat) (x7 : Int32) (x6 : Int32) (μ : hb_m), hb_V p l e rmX0_shareByParts s m args below meth c 10 vwCl kdX 241 ad D dA (hb_Qv vwCl kdX 241 ad D dA) μ 20 [(7, .int x7), (6, .int x6), (5, .int v5), (0, .ref (ad 235)), (1, .int p1), (2, .ref (ad c2)), (3, .int p3), (4, .ref (ad c4))] [] (lX0_shareByParts_20 n p1 c2 p3 c4 v5 k f x7 x6 μ) := by
    intro v5 k hk f
    induction f with
    | zero => intro x7 x6 μ; rw [lX0_shareByParts_20]; exact hr_none
    | succ f ih =>
      intro x7 x6 μ
      rw [lX0_shareByParts_20]
      refine hr_iload hC dX0_shareByParts_20 0 rfl ?_
      refine hr_iload_n hC dX0_shareByParts_22 rfl 6 rfl ?_
      refine hr_icmp_ge (tgt := 77) hC dX0_shareByParts_23 (by decide) (fun _ => ?_) (fun _ => ?_)
      · refine hr_sub (lv' := [(7, .int x7), (6, .int x6), (5, .int v5), (0, .ref (ad 235)), (1, .int p1), (2, .ref (ad c2)), (3, .int p3), (4, .ref (ad c4))]) [0, 1, 2, 3, 4, 5, 6, 7] rfl ?_
        exact hk _ _ _
      · refine hr_iload_n hC dX0_shareByParts_26 rfl 4 rfl ?_
        refine hr_i2l hC dX0_shareByParts_27 ?_
        refine hr_aload_n hC dX0_shareByParts_28 rfl 5 rfl ?_
        refine hr_iload hC dX0_shareByParts_29 0 rfl ?_
        refine hr_iald hC h2 dX0_shareByParts_31 ?_
        refine hr_i2l hC dX0_shareByParts_32 ?_
        refine hr_lmul hC dX0_shareByParts_33 ?_
        refine hr_lstore (lv' := [(8, .long (p1.toInt64 * (rd μ c2 x7.toNatClampNeg).toInt64)), (7, .int x7), (6, .int x6), (5, .int v5), (0, .ref (ad 235)), (1, .int p1), (2, .ref (ad c2)), (3, .int p3), (4, .ref (ad c4))]) hC dX0_shareByParts_34 (by decide) rfl ?_
        refine hr_aload hC dX0_shareByParts_36 8 rfl ?_
        refine hr_iload hC dX0_shareByParts_38 1 rfl ?_
        refine hr_lload hC dX0_shareByParts_40 0 rfl ?_
        refine hr_iload hC dX0_shareByParts_42 3 rfl ?_
        refine hr_i2l hC dX0_shareByParts_44 ?_
        refine hr_ldivZ hC dX0_shareByParts_45 ?_
        refine hr_l2i hC dX0_shareByParts_46 ?_
        refine hr_iast hC h4 dX0_shareByParts_47 ?_
        refine hr_aload_n hC dX0_shareByParts_48 rfl 4 rfl ?_
        refine hr_getR hC hiX0_shareByParts_X0 rfl kx235 4 (by decide) hmX0_shareByParts_24 rfl dX0_shareByParts_49 ?_
        refine hr_iload hC dX0_shareByParts_52 1 rfl ?_
        refine hr_lload hC dX0_shareByParts_54 0 rfl ?_
        refine hr_iload hC dX0_shareByParts_56 3 rfl ?_
        refine hr_i2l hC dX0_shareByParts_58 ?_
        refine hr_lremZ hC dX0_shareByParts_59 ?_
        refine hr_last hC kx240 dX0_shareByParts_60 ?_
        refine hr_iload hC dX0_shareByParts_61 2 rfl ?_
        refine hr_aload hC dX0_shareByParts_63 8 rfl ?_
        refine hr_iload hC dX0_shareByParts_65 1 rfl ?_
        refine hr_iald hC h4 dX0_shareByParts_67 ?_
        refine hr_isub hC dX0_shareByParts_68 ?_
        refine hr_istore (lv' := [(6, .int (x6 - (rd (wL (wr μ c4 x7.toNatClampNeg ((p1.toInt64 * (rd μ c2 x7.toNatClampNeg).toInt64) / v5.toInt64).toInt32) 240 x7.toNatClampNeg ((p1.toInt64 * (rd μ c2 x7.toNatClampNeg).toInt64) - (p1.toInt64 * (rd μ c2 x7.toNatClampNeg).toInt64) / v5.toInt64 * v5.toInt64)) c4 x7.toNatClampNeg))), (8, .long (p1.toInt64 * (rd μ c2 x7.toNatClampNeg).toInt64)), (7, .int x7), (5, .int v5), (0, .ref (ad 235)), (1, .int p1), (2, .ref (ad c2)), (3, .int p3), (4, .ref (ad c4))]) hC dX0_shareByParts_69 (by decide) rfl ?_
        refine hr_iinc (v := (x7 + (1 : Int32))) (lv' := [(7, .int (x7 + (1 : Int32))), (6, .int (x6 - (rd (wL (wr μ c4 x7.toNatClampNeg ((p1.toInt64 * (rd μ c2 x7.toNatClampNeg).toInt64) / v5.toInt64).toInt32) 240 x7.toNatClampNeg ((p1.toInt64 * (rd μ c2 x7.toNatClampNeg).toInt64) - (p1.toInt64 * (rd μ c2 x7.toNatClampNeg).toInt64) / v5.toInt64 * v5.toInt64)) c4 x7.toNatClampNeg))), (8, .long (p1.toInt64 * (rd μ c2 x7.toNatClampNeg).toInt64)), (5, .int v5), (0, .ref (ad 235)), (1, .int p1), (2, .ref (ad c2)), (3, .int p3), (4, .ref (ad c4))]) (kx := 2) hC dX0_shareByParts_71 rfl rfl (by decide) rfl ?_
        refine hr_goto (tgt := 20) hC dX0_shareByParts_74 (by decide) ?_
        refine hr_sub (lv' := [(7, .int (x7 + (1 : Int32))), (6, .int (x6 - (rd (wL (wr μ c4 x7.toNatClampNeg ((p1.toInt64 * (rd μ c2 x7.toNatClampNeg).toInt64) / v5.toInt64).toInt32) 240 x7.toNatClampNeg ((p1.toInt64 * (rd μ c2 x7.toNatClampNeg).toInt64) - (p1.toInt64 * (rd μ c2 x7.toNatClampNeg).toInt64) / v5.toInt64 * v5.toInt64)) c4 x7.toNatClampNeg))), (5, .int v5), (0, .ref (ad 235)), (1, .int p1), (2, .ref (ad c2)), (3, .int p3), (4, .ref (ad c4))]) [0, 1, 3, 4, 5, 6, 7, 8] rfl ?_
        exact ih _ _ _
  have L80 : ∀ (v6 : Int32) (k : Int32 → hb_m → Option (hb_m)) (hk : ∀ (x7 : Int32) (μ : hb_m), hb_V p l e rmX0_shareByParts s m args below meth c 10 vwCl kdX 241 ad D dA (hb_Qv vwCl kdX 241 ad D dA) μ 100 [(7, .int x7), (6, .int v6), (0, .ref (ad 235)), (3, .int p3), (4, .ref (ad c4))] [] (k x7 μ)) (f : Nat) (x7 : Int32) (μ : hb_m), hb_V p l e rmX0_shareByParts s m args below meth c 10 vwCl kdX 241 ad D dA (hb_Qv vwCl kdX 241 ad D dA) μ 80 [(7, .int x7), (6, .int v6), (0, .ref (ad 235)), (3, .int p3), (4, .ref (ad c4))] [] (lX0_shareByParts_80 n p1 c2 p3 c4 v6 k f x7 μ) := by
    intro v6 k hk f
    induction f with
    | zero => intro x7 μ; rw [lX0_shareByParts_80]; exact hr_none
    | succ f ih =>
      intro x7 μ
      rw [lX0_shareByParts_80]
      refine hr_iload hC dX0_shareByParts_80 0 rfl ?_
      refine hr_iload hC dX0_shareByParts_82 1 rfl ?_
      refine hr_icmp_ge (tgt := 100) hC dX0_shareByParts_84 (by decide) (fun _ => ?_) (fun _ => ?_)
      · refine hr_sub (lv' := [(7, .int x7), (6, .int v6), (0, .ref (ad 235)), (3, .int p3), (4, .ref (ad c4))]) [0, 1, 2, 3, 4] rfl ?_
        exact hk _ _
      · refine hr_aload_n hC dX0_shareByParts_87 rfl 2 rfl ?_
        refine hr_aload hC dX0_shareByParts_88 4 rfl ?_
        refine hr_iload_n hC dX0_shareByParts_90 rfl 3 rfl ?_
        refine hr_callVv (As := [.ref (ad c4), .int p3]) (k := 235) hC rfl (tX0_giveCoin (t1 := t1) (t2 := t2) hI n c4 h4 p3 μ) (cwV 2 hC.1.2.2.2.2 gX0_shareByParts_X0_giveCoin rfl rfl rfl (by decide +kernel) ⟨Nat.le_of_ble_eq_true rfl, Nat.le_of_ble_eq_true rfl⟩) kx235 rfl rfl rfl (Nat.le_of_ble_eq_true rfl) dX0_shareByParts_91 (fun m91 => ?_)
        refine hr_iinc (v := (x7 + (1 : Int32))) (lv' := [(7, .int (x7 + (1 : Int32))), (6, .int v6), (0, .ref (ad 235)), (3, .int p3), (4, .ref (ad c4))]) (kx := 0) hC dX0_shareByParts_94 rfl rfl (by decide) rfl ?_
        refine hr_goto (tgt := 80) hC dX0_shareByParts_97 (by decide) ?_
        refine hr_sub (lv' := [(7, .int (x7 + (1 : Int32))), (6, .int v6), (0, .ref (ad 235)), (3, .int p3), (4, .ref (ad c4))]) [0, 1, 2, 3, 4] rfl ?_
        exact ih _ _
  rw [fX0_shareByParts]
  refine hr_aload_n hC dX0_shareByParts_0 rfl 2 rfl ?_
  refine hr_iload_n hC dX0_shareByParts_1 rfl 3 rfl ?_
  refine hr_callSNi (As := [.ref (ad c2), .int p3]) hC rfl (tX5_sumOf (t1 := t1) (t2 := t2) hI n c2 h2 p3 μ) ⟨va_cnB 2 hC.1.2.2.2.2 gX0_shareByParts_X5_sumOf_n61 rfl rfl rfl (hC.2.2.2.2.1 _ nwX_0) (hC.1.2.2.2.2 _ hmX0_shareByParts_ini_X5_sumOf) (by decide +kernel) ⟨Nat.le_of_ble_eq_true rfl, Nat.le_of_ble_eq_true rfl⟩, hC.1.2.2.2.2 _ hmX0_shareByParts_sta_X5_sumOf, trivial⟩ rfl (Nat.le_of_ble_eq_true rfl) dX0_shareByParts_2 (fun r2 m2 => ?_)
  refine hr_istore (lv' := [(5, .int r2), (0, .ref (ad 235)), (1, .int p1), (2, .ref (ad c2)), (3, .int p3), (4, .ref (ad c4))]) hC dX0_shareByParts_5 (by decide) rfl ?_
  refine hr_iload hC dX0_shareByParts_7 0 rfl ?_
  refine hr_iconst (v := 1) hC dX0_shareByParts_9 (by decide) ?_
  refine hr_icmp_ge (tgt := 14) hC dX0_shareByParts_10 (by decide) (fun _ => ?_) (fun _ => ?_)
  · refine hr_iload_n hC dX0_shareByParts_14 rfl 2 rfl ?_
    refine hr_istore (lv' := [(6, .int p1), (5, .int r2), (0, .ref (ad 235)), (1, .int p1), (2, .ref (ad c2)), (3, .int p3), (4, .ref (ad c4))]) hC dX0_shareByParts_15 (by decide) rfl ?_
    refine hr_iconst (v := 0) hC dX0_shareByParts_17 (by decide) ?_
    refine hr_istore (lv' := [(7, .int (0 : Int32)), (6, .int p1), (5, .int r2), (0, .ref (ad 235)), (1, .int p1), (2, .ref (ad c2)), (3, .int p3), (4, .ref (ad c4))]) hC dX0_shareByParts_18 (by decide) rfl ?_
    refine hr_sub (lv' := [(7, .int (0 : Int32)), (6, .int p1), (5, .int r2), (0, .ref (ad 235)), (1, .int p1), (2, .ref (ad c2)), (3, .int p3), (4, .ref (ad c4))]) [0, 1, 2, 3, 4, 5, 6, 7] rfl ?_
    refine L20 _ _ (fun x7_20 x6_20 m20 => ?_) _ _ _ _
    refine hr_iconst (v := 0) hC dX0_shareByParts_77 (by decide) ?_
    refine hr_istore (lv' := [(7, .int (0 : Int32)), (6, .int x6_20), (5, .int r2), (0, .ref (ad 235)), (1, .int p1), (2, .ref (ad c2)), (3, .int p3), (4, .ref (ad c4))]) hC dX0_shareByParts_78 (by decide) rfl ?_
    refine hr_sub (lv' := [(7, .int (0 : Int32)), (6, .int x6_20), (0, .ref (ad 235)), (3, .int p3), (4, .ref (ad c4))]) [0, 1, 3, 6, 7] rfl ?_
    refine L80 _ _ (fun x7_80 m80 => ?_) _ _ _
    exact hr_vret hC hr dX0_shareByParts_100
  · exact hr_vret hC hr dX0_shareByParts_13
theorem hmX0_shareCost_9 : Cond.fieldLink RX0 9 "HeatBills$Accounts" "flatUnits" "[I" ∈ wsX0_shareCost := List.mem_of_getElem? (i := 1) rfl
theorem hmX0_shareCost_58 : Cond.fieldLink RX0 58 "HeatBills$House" "flatCount" "I" ∈ wsX0_shareCost := List.mem_of_getElem? (i := 2) rfl
theorem hmX0_shareCost_ini_X5_sumOf : Cond.initialized yX5_sumOf.cls ∈ wsX0_shareCost := List.mem_of_getElem? (i := 7) rfl
theorem hmX0_shareCost_sta_X5_sumOf : Cond.static yX5_sumOf ∈ wsX0_shareCost := List.mem_of_getElem? (i := 6) rfl
theorem hmX0_shareCost_65 : Cond.fieldLink RX0 65 "HeatBills$House" "areas" "[I" ∈ wsX0_shareCost := List.mem_of_getElem? (i := 3) rfl
theorem hmX0_shareCost_15 : Cond.fieldLink RX0 15 "HeatBills$Accounts" "baseCosts" "[I" ∈ wsX0_shareCost := List.mem_of_getElem? (i := 4) rfl
theorem hmX0_shareCost_18 : Cond.fieldLink RX0 18 "HeatBills$Accounts" "unitCosts" "[I" ∈ wsX0_shareCost := List.mem_of_getElem? (i := 5) rfl
theorem hiX0_shareCost_X0 : ∀ w ∈ wsX00, w ∈ wsX0_shareCost := fun _ h => List.mem_cons_of_mem _ (List.mem_append_left _ (List.mem_append_right _ h))
theorem hiX0_shareCost_X2 : ∀ w ∈ wsX20, w ∈ wsX0_shareCost := fun _ h => List.mem_cons_of_mem _ (List.mem_append_right _ h)
def fX0_shareCost (n : Nat) (c1 : Nat) (p2 : Int32) (p3 : Int32) (μ : hb_m) : Option (hb_m) :=
bi (fX5_sumOf n 236 (rd μ c1 0) μ) (fun r16 m16 =>
if r16 ≤ 0 then
(bv (fX0_shareByParts n ((p2 * p3) / (100 : Int32)) (c1 + 1) (rd m16 c1 0) 237 m16) (fun m44 =>
bv (fX0_shareByParts n (p2 - ((p2 * p3) / (100 : Int32))) (c1 + 1) (rd m44 c1 0) 238 m44) (fun m76 =>
some m76)))
else
(bv (fX0_shareByParts n ((p2 * p3) / (100 : Int32)) (c1 + 1) (rd m16 c1 0) 237 m16) (fun m44 =>
bv (fX0_shareByParts n (p2 - ((p2 * p3) / (100 : Int32))) 236 (rd m44 c1 0) 238 m44) (fun m76 =>
some m76))))
abbrev rmX0_shareCost : Room := { frames := 2, cells := 0, slots := 0, locals := 53 }
set_option maxRecDepth 100000 in
set_option maxHeartbeats 4000000 in
theorem tX0_shareCost {l : Launch} {D : va_G} {ad : Nat → Nat} {dA : Nat → ClassId} {t1 t2 : Nat} (hI : hb_I 241 ad) (n : Nat) (c1 : Nat) (h1 : hx_H c1) (p2 : Int32) (p3 : Int32) (μ : hb_m) : hb_M (hb_Qv vwCl kdX 241 ad D dA) l yX0_shareCost wsX0_shareCost rmX0_shareCost vwCl kdX 241 ad D dA (tbX t1 t2) nwX [.ref (ad 235), .ref (ad c1), .int p2, .int p3] μ (fX0_shareCost n c1 p2 p3 μ) := by
  refine hb_start (cc := cX0_shareCost) (maxL := 6) (ret := none) (by decide) rfl hI (Nat.le_of_ble_eq_true rfl) [(0, .ref (ad 235)), (1, .ref (ad c1)), (2, .int p2), (3, .int p3)] rfl ?_
  intro p e s m args below meth c hC hr
  rw [fX0_shareCost]
  refine hr_iload_n hC dX0_shareCost_0 rfl 2 rfl ?_
  refine hr_iload_n hC dX0_shareCost_1 rfl 3 rfl ?_
  refine hr_imul hC dX0_shareCost_2 ?_
  refine hr_bipush (v := 100) hC dX0_shareCost_3 (by decide) ?_
  refine hr_idiv hC dX0_shareCost_5 (by decide) ?_
  refine hr_istore (lv' := [(4, .int ((p2 * p3) / (100 : Int32))), (0, .ref (ad 235)), (1, .ref (ad c1)), (2, .int p2), (3, .int p3)]) hC dX0_shareCost_6 (by decide) rfl ?_
  refine hr_aload_n hC dX0_shareCost_8 rfl 1 rfl ?_
  refine hr_getR hC hiX0_shareCost_X0 rfl kx235 0 (by decide) hmX0_shareCost_9 rfl dX0_shareCost_9 ?_
  refine hr_aload_n hC dX0_shareCost_12 rfl 2 rfl ?_
  refine hr_getI hC hiX0_shareCost_X2 rfl (kxH h1) 0 (by decide) hmX0_shareCost_58 rfl dX0_shareCost_13 ?_
  refine hr_callSNi (As := [.ref (ad 236), .int (rd μ c1 0)]) hC rfl (tX5_sumOf (t1 := t1) (t2 := t2) hI n 236 (hx_Io kx236) (rd μ c1 0) μ) ⟨va_cnB 2 hC.1.2.2.2.2 gX0_shareCost_X5_sumOf_n61 rfl rfl rfl (hC.2.2.2.2.1 _ nwX_0) (hC.1.2.2.2.2 _ hmX0_shareCost_ini_X5_sumOf) (by decide +kernel) ⟨Nat.le_of_ble_eq_true rfl, Nat.le_of_ble_eq_true rfl⟩, hC.1.2.2.2.2 _ hmX0_shareCost_sta_X5_sumOf, trivial⟩ rfl (Nat.le_of_ble_eq_true rfl) dX0_shareCost_16 (fun r16 m16 => ?_)
  refine hr_if_le (tgt := 26) hC dX0_shareCost_19 (by decide) (fun _ => ?_) (fun _ => ?_)
  · refine hr_iconst (v := 0) hC dX0_shareCost_26 (by decide) ?_
    refine hr_istore (lv' := [(5, .int (0 : Int32)), (4, .int ((p2 * p3) / (100 : Int32))), (0, .ref (ad 235)), (1, .ref (ad c1)), (2, .int p2), (3, .int p3)]) hC dX0_shareCost_27 (by decide) rfl ?_
    refine hr_aload_n hC dX0_shareCost_29 rfl 2 rfl ?_
    refine hr_iload hC dX0_shareCost_30 1 rfl ?_
    refine hr_aload_n hC dX0_shareCost_32 rfl 3 rfl ?_
    refine hr_getR hC hiX0_shareCost_X2 rfl (kxH h1) 1 (by decide) hmX0_shareCost_65 rfl dX0_shareCost_33 ?_
    refine hr_aload_n hC dX0_shareCost_36 rfl 3 rfl ?_
    refine hr_getI hC hiX0_shareCost_X2 rfl (kxH h1) 0 (by decide) hmX0_shareCost_58 rfl dX0_shareCost_37 ?_
    refine hr_aload_n hC dX0_shareCost_40 rfl 2 rfl ?_
    refine hr_getR hC hiX0_shareCost_X0 rfl kx235 1 (by decide) hmX0_shareCost_15 rfl dX0_shareCost_41 ?_
    refine hr_callVv (As := [.int ((p2 * p3) / (100 : Int32)), .ref (ad (c1 + 1)), .int (rd m16 c1 0), .ref (ad 237)]) (k := 235) hC rfl (tX0_shareByParts (t1 := t1) (t2 := t2) hI n ((p2 * p3) / (100 : Int32)) (c1 + 1) (hx_Io (kxH1 h1)) (rd m16 c1 0) 237 (hx_Io kx237) m16) (cwV 4 hC.1.2.2.2.2 gX0_shareCost_X0_shareByParts rfl rfl rfl (by decide +kernel) ⟨Nat.le_of_ble_eq_true rfl, Nat.le_of_ble_eq_true rfl⟩) kx235 rfl rfl rfl (Nat.le_of_ble_eq_true rfl) dX0_shareCost_44 (fun m44 => ?_)
    refine hr_aload_n hC dX0_shareCost_47 rfl 2 rfl ?_
    refine hr_iload_n hC dX0_shareCost_48 rfl 4 rfl ?_
    refine hr_iload hC dX0_shareCost_49 1 rfl ?_
    refine hr_isub hC dX0_shareCost_51 ?_
    refine hr_iload hC dX0_shareCost_52 0 rfl ?_
    refine hr_if_eqT (tgt := 64) hC dX0_shareCost_54 (by decide) (by decide) ?_
    refine hr_aload_n hC dX0_shareCost_64 rfl 3 rfl ?_
    refine hr_getR hC hiX0_shareCost_X2 rfl (kxH h1) 1 (by decide) hmX0_shareCost_65 rfl dX0_shareCost_65 ?_
    refine hr_aload_n hC dX0_shareCost_68 rfl 3 rfl ?_
    refine hr_getI hC hiX0_shareCost_X2 rfl (kxH h1) 0 (by decide) hmX0_shareCost_58 rfl dX0_shareCost_69 ?_
    refine hr_aload_n hC dX0_shareCost_72 rfl 2 rfl ?_
    refine hr_getR hC hiX0_shareCost_X0 rfl kx235 2 (by decide) hmX0_shareCost_18 rfl dX0_shareCost_73 ?_
    refine hr_callVv (As := [.int (p2 - ((p2 * p3) / (100 : Int32))), .ref (ad (c1 + 1)), .int (rd m44 c1 0), .ref (ad 238)]) (k := 235) hC rfl (tX0_shareByParts (t1 := t1) (t2 := t2) hI n (p2 - ((p2 * p3) / (100 : Int32))) (c1 + 1) (hx_Io (kxH1 h1)) (rd m44 c1 0) 238 (hx_Io kx238) m44) (cwV 4 hC.1.2.2.2.2 gX0_shareCost_X0_shareByParts rfl rfl rfl (by decide +kernel) ⟨Nat.le_of_ble_eq_true rfl, Nat.le_of_ble_eq_true rfl⟩) kx235 rfl rfl rfl (Nat.le_of_ble_eq_true rfl) dX0_shareCost_76 (fun m76 => ?_)
    exact hr_vret hC hr dX0_shareCost_79
  · refine hr_iconst (v := 1) hC dX0_shareCost_22 (by decide) ?_
    refine hr_goto (tgt := 27) hC dX0_shareCost_23 (by decide) ?_
    refine hr_istore (lv' := [(5, .int (1 : Int32)), (4, .int ((p2 * p3) / (100 : Int32))), (0, .ref (ad 235)), (1, .ref (ad c1)), (2, .int p2), (3, .int p3)]) hC dX0_shareCost_27 (by decide) rfl ?_
    refine hr_aload_n hC dX0_shareCost_29 rfl 2 rfl ?_
    refine hr_iload hC dX0_shareCost_30 1 rfl ?_
    refine hr_aload_n hC dX0_shareCost_32 rfl 3 rfl ?_
    refine hr_getR hC hiX0_shareCost_X2 rfl (kxH h1) 1 (by decide) hmX0_shareCost_65 rfl dX0_shareCost_33 ?_
    refine hr_aload_n hC dX0_shareCost_36 rfl 3 rfl ?_
    refine hr_getI hC hiX0_shareCost_X2 rfl (kxH h1) 0 (by decide) hmX0_shareCost_58 rfl dX0_shareCost_37 ?_
    refine hr_aload_n hC dX0_shareCost_40 rfl 2 rfl ?_
    refine hr_getR hC hiX0_shareCost_X0 rfl kx235 1 (by decide) hmX0_shareCost_15 rfl dX0_shareCost_41 ?_
    refine hr_callVv (As := [.int ((p2 * p3) / (100 : Int32)), .ref (ad (c1 + 1)), .int (rd m16 c1 0), .ref (ad 237)]) (k := 235) hC rfl (tX0_shareByParts (t1 := t1) (t2 := t2) hI n ((p2 * p3) / (100 : Int32)) (c1 + 1) (hx_Io (kxH1 h1)) (rd m16 c1 0) 237 (hx_Io kx237) m16) (cwV 4 hC.1.2.2.2.2 gX0_shareCost_X0_shareByParts rfl rfl rfl (by decide +kernel) ⟨Nat.le_of_ble_eq_true rfl, Nat.le_of_ble_eq_true rfl⟩) kx235 rfl rfl rfl (Nat.le_of_ble_eq_true rfl) dX0_shareCost_44 (fun m44 => ?_)
    refine hr_aload_n hC dX0_shareCost_47 rfl 2 rfl ?_
    refine hr_iload_n hC dX0_shareCost_48 rfl 4 rfl ?_
    refine hr_iload hC dX0_shareCost_49 1 rfl ?_
    refine hr_isub hC dX0_shareCost_51 ?_
    refine hr_iload hC dX0_shareCost_52 0 rfl ?_
    refine hr_if_eqF (tgt := 64) hC dX0_shareCost_54 (by decide) (by decide) ?_
    refine hr_aload_n hC dX0_shareCost_57 rfl 2 rfl ?_
    refine hr_getR hC hiX0_shareCost_X0 rfl kx235 0 (by decide) hmX0_shareCost_9 rfl dX0_shareCost_58 ?_
    refine hr_goto (tgt := 68) hC dX0_shareCost_61 (by decide) ?_
    refine hr_aload_n hC dX0_shareCost_68 rfl 3 rfl ?_
    refine hr_getI hC hiX0_shareCost_X2 rfl (kxH h1) 0 (by decide) hmX0_shareCost_58 rfl dX0_shareCost_69 ?_
    refine hr_aload_n hC dX0_shareCost_72 rfl 2 rfl ?_
    refine hr_getR hC hiX0_shareCost_X0 rfl kx235 2 (by decide) hmX0_shareCost_18 rfl dX0_shareCost_73 ?_
    refine hr_callVv (As := [.int (p2 - ((p2 * p3) / (100 : Int32))), .ref (ad 236), .int (rd m44 c1 0), .ref (ad 238)]) (k := 235) hC rfl (tX0_shareByParts (t1 := t1) (t2 := t2) hI n (p2 - ((p2 * p3) / (100 : Int32))) 236 (hx_Io kx236) (rd m44 c1 0) 238 (hx_Io kx238) m44) (cwV 4 hC.1.2.2.2.2 gX0_shareCost_X0_shareByParts rfl rfl rfl (by decide +kernel) ⟨Nat.le_of_ble_eq_true rfl, Nat.le_of_ble_eq_true rfl⟩) kx235 rfl rfl rfl (Nat.le_of_ble_eq_true rfl) dX0_shareCost_76 (fun m76 => ?_)
    exact hr_vret hC hr dX0_shareCost_79
theorem hmX0_drawUp_9 : Cond.fieldLink RX0 9 "HeatBills$Accounts" "flatUnits" "[I" ∈ wsX0_drawUp := List.mem_of_getElem? (i := 1) rfl
theorem hmX0_drawUp_34 : Cond.fieldLink RX0 34 "HeatBills$Year" "deviceCount" "I" ∈ wsX0_drawUp := List.mem_of_getElem? (i := 2) rfl
theorem hmX0_drawUp_40 : Cond.fieldLink RX0 40 "HeatBills$House" "deviceFlats" "[I" ∈ wsX0_drawUp := List.mem_of_getElem? (i := 3) rfl
theorem hmX0_drawUp_45 : Cond.fieldLink RX0 45 "HeatBills$Year" "deviceUnits" "[I" ∈ wsX0_drawUp := List.mem_of_getElem? (i := 4) rfl
theorem hmX0_drawUp_48 : Cond.fieldLink RX0 48 "HeatBills$Year" "cost" "I" ∈ wsX0_drawUp := List.mem_of_getElem? (i := 5) rfl
theorem hmX0_drawUp_51 : Cond.fieldLink RX0 51 "HeatBills$Year" "baseShare" "I" ∈ wsX0_drawUp := List.mem_of_getElem? (i := 6) rfl
theorem hiX0_drawUp_X0 : ∀ w ∈ wsX00, w ∈ wsX0_drawUp := fun _ h => List.mem_cons_of_mem _ (List.mem_append_left _ (List.mem_append_left _ (List.mem_append_right _ h)))
theorem hiX0_drawUp_X4 : ∀ w ∈ wsX40, w ∈ wsX0_drawUp := fun _ h => List.mem_cons_of_mem _ (List.mem_append_left _ (List.mem_append_right _ h))
theorem hiX0_drawUp_X2 : ∀ w ∈ wsX20, w ∈ wsX0_drawUp := fun _ h => List.mem_cons_of_mem _ (List.mem_append_right _ h)
def lX0_drawUp_10 (n : Nat) (c1 : Nat) (c2 : Nat) (k : Int32 → hb_m → Option (hb_m)) : Nat → Int32 → hb_m → Option (hb_m)
  | 0, _, _ => none
  | f + 1, x3, μ => if (rd μ c2 2) ≤ x3 then
(k x3 μ)
else
(if ib x3 20 then
if ib (rd μ (c1 + 2) x3.toNatClampNeg) 8 then
if ib x3 20 then
if ib (rd μ (c1 + 2) x3.toNatClampNeg) 8 then
lX0_drawUp_10 n c1 c2 k f (x3 + (1 : Int32)) (wr μ 236 (rd μ (c1 + 2) x3.toNatClampNeg).toNatClampNeg ((rd μ 236 (rd μ (c1 + 2) x3.toNatClampNeg).toNatClampNeg) + (rd μ (c2 + 3) x3.toNatClampNeg)))
else none
else none
else none
else none)
def fX0_drawUp (n : Nat) (c1 : Nat) (c2 : Nat) (μ : hb_m) : Option (hb_m) :=
bv (fJ7_fill_53178 n 236 (0 : Int32) μ) (fun m5 =>
lX0_drawUp_10 n c1 c2 (fun x3_10 m10 =>
bv (fX0_shareCost n c1 (rd m10 c2 0) (rd m10 c2 1) m10) (fun m54 =>
some m54)) n (0 : Int32) m5)
abbrev rmX0_drawUp : Room := { frames := 3, cells := 0, slots := 0, locals := 78 }
set_option maxRecDepth 100000 in
set_option maxHeartbeats 4000000 in
theorem tX0_drawUp {l : Launch} {D : va_G} {ad : Nat → Nat} {dA : Nat → ClassId} {t1 t2 : Nat} (hI : hb_I 241 ad) (n : Nat) (c1 : Nat) (h1 : hx_H c1) (c2 : Nat) (h2 : hx_Y c2) (μ : hb_m) : hb_M (hb_Qv vwCl kdX 241 ad D dA) l yX0_drawUp wsX0_drawUp rmX0_drawUp vwCl kdX 241 ad D dA (tbX t1 t2) nwX [.ref (ad 235), .ref (ad c1), .ref (ad c2)] μ (fX0_drawUp n c1 c2 μ) := by
  refine hb_start (cc := cX0_drawUp) (maxL := 4) (ret := none) (by decide) rfl hI (Nat.le_of_ble_eq_true rfl) [(0, .ref (ad 235)), (1, .ref (ad c1)), (2, .ref (ad c2))] rfl ?_
  intro p e s m args below meth c hC hr
  have L10 : ∀ (k : Int32 → hb_m → Option (hb_m)) (hk : ∀ (x3 : Int32) (μ : hb_m), hb_V p l e rmX0_drawUp s m args below meth c 4 vwCl kdX 241 ad D dA (hb_Qv vwCl kdX 241 ad D dA) μ 44 [(3, .int x3), (0, .ref (ad 235)), (1, .ref (ad c1)), (2, .ref (ad c2))] [] (k x3 μ)) (f : Nat) (x3 : Int32) (μ : hb_m), hb_V p l e rmX0_drawUp s m args below meth c 4 vwCl kdX 241 ad D dA (hb_Qv vwCl kdX 241 ad D dA) μ 10 [(3, .int x3), (0, .ref (ad 235)), (1, .ref (ad c1)), (2, .ref (ad c2))] [] (lX0_drawUp_10 n c1 c2 k f x3 μ) := by
    intro k hk f
    induction f with
    | zero => intro x3 μ; rw [lX0_drawUp_10]; exact hr_none
    | succ f ih =>
      intro x3 μ
      rw [lX0_drawUp_10]
      refine hr_iload_n hC dX0_drawUp_10 rfl 0 rfl ?_
      refine hr_aload_n hC dX0_drawUp_11 rfl 3 rfl ?_
      refine hr_getI hC hiX0_drawUp_X4 rfl (kxY h2) 2 (by decide) hmX0_drawUp_34 rfl dX0_drawUp_12 ?_
      refine hr_icmp_ge (tgt := 44) hC dX0_drawUp_15 (by decide) (fun _ => ?_) (fun _ => ?_)
      · refine hr_sub (lv' := [(3, .int x3), (0, .ref (ad 235)), (1, .ref (ad c1)), (2, .ref (ad c2))]) [0, 1, 2, 3] rfl ?_
        exact hk _ _
      · refine hr_aload_n hC dX0_drawUp_18 rfl 1 rfl ?_
        refine hr_getR hC hiX0_drawUp_X0 rfl kx235 0 (by decide) hmX0_drawUp_9 rfl dX0_drawUp_19 ?_
        refine hr_aload_n hC dX0_drawUp_22 rfl 2 rfl ?_
        refine hr_getR hC hiX0_drawUp_X2 rfl (kxH h1) 2 (by decide) hmX0_drawUp_40 rfl dX0_drawUp_23 ?_
        refine hr_iload_n hC dX0_drawUp_26 rfl 0 rfl ?_
        refine hr_iald hC (kxH2 h1) dX0_drawUp_27 ?_
        refine hr_dup2 hC dX0_drawUp_28 rfl rfl ?_
        refine hr_iald hC kx236 dX0_drawUp_29 ?_
        refine hr_aload_n hC dX0_drawUp_30 rfl 3 rfl ?_
        refine hr_getR hC hiX0_drawUp_X4 rfl (kxY h2) 5 (by decide) hmX0_drawUp_45 rfl dX0_drawUp_31 ?_
        refine hr_iload_n hC dX0_drawUp_34 rfl 0 rfl ?_
        refine hr_iald hC (kxY3 h2) dX0_drawUp_35 ?_
        refine hr_iadd hC dX0_drawUp_36 ?_
        refine hr_iast hC kx236 dX0_drawUp_37 ?_
        refine hr_iinc (v := (x3 + (1 : Int32))) (lv' := [(3, .int (x3 + (1 : Int32))), (0, .ref (ad 235)), (1, .ref (ad c1)), (2, .ref (ad c2))]) (kx := 0) hC dX0_drawUp_38 rfl rfl (by decide) rfl ?_
        refine hr_goto (tgt := 10) hC dX0_drawUp_41 (by decide) ?_
        refine hr_sub (lv' := [(3, .int (x3 + (1 : Int32))), (0, .ref (ad 235)), (1, .ref (ad c1)), (2, .ref (ad c2))]) [0, 1, 2, 3] rfl ?_
        exact ih _ _
  rw [fX0_drawUp]
  refine hr_aload_n hC dX0_drawUp_0 rfl 0 rfl ?_
  refine hr_getR hC hiX0_drawUp_X0 rfl kx235 0 (by decide) hmX0_drawUp_9 rfl dX0_drawUp_1 ?_
  refine hr_iconst (v := 0) hC dX0_drawUp_4 (by decide) ?_
  refine hr_callSv (As := [.ref (ad 236), .int (0 : Int32)]) hC rfl (tJ7_fill_53178 (t1 := t1) (t2 := t2) hI n 236 (hx_Io kx236) (0 : Int32) μ) (va_cwS 2 hC.1.2.2.2.2 gX0_drawUp_J7_fill_53178 rfl rfl rfl (by decide +kernel) ⟨Nat.le_of_ble_eq_true rfl, Nat.le_of_ble_eq_true rfl⟩) rfl (Nat.le_of_ble_eq_true rfl) dX0_drawUp_5 (fun m5 => ?_)
  refine hr_iconst (v := 0) hC dX0_drawUp_8 (by decide) ?_
  refine hr_istore_n (lv' := [(3, .int (0 : Int32)), (0, .ref (ad 235)), (1, .ref (ad c1)), (2, .ref (ad c2))]) hC dX0_drawUp_9 rfl (by decide) rfl ?_
  refine hr_sub (lv' := [(3, .int (0 : Int32)), (0, .ref (ad 235)), (1, .ref (ad c1)), (2, .ref (ad c2))]) [0, 1, 2, 3] rfl ?_
  refine L10 _ (fun x3_10 m10 => ?_) _ _ _
  refine hr_aload_n hC dX0_drawUp_44 rfl 1 rfl ?_
  refine hr_aload_n hC dX0_drawUp_45 rfl 2 rfl ?_
  refine hr_aload_n hC dX0_drawUp_46 rfl 3 rfl ?_
  refine hr_getI hC hiX0_drawUp_X4 rfl (kxY h2) 0 (by decide) hmX0_drawUp_48 rfl dX0_drawUp_47 ?_
  refine hr_aload_n hC dX0_drawUp_50 rfl 3 rfl ?_
  refine hr_getI hC hiX0_drawUp_X4 rfl (kxY h2) 1 (by decide) hmX0_drawUp_51 rfl dX0_drawUp_51 ?_
  refine hr_callVv (As := [.ref (ad c1), .int (rd m10 c2 0), .int (rd m10 c2 1)]) (k := 235) hC rfl (tX0_shareCost (t1 := t1) (t2 := t2) hI n c1 h1 (rd m10 c2 0) (rd m10 c2 1) m10) (cwV 3 hC.1.2.2.2.2 gX0_drawUp_X0_shareCost rfl rfl rfl (by decide +kernel) ⟨Nat.le_of_ble_eq_true rfl, Nat.le_of_ble_eq_true rfl⟩) kx235 rfl rfl rfl (Nat.le_of_ble_eq_true rfl) dX0_drawUp_54 (fun m54 => ?_)
  exact hr_vret hC hr dX0_drawUp_57
theorem hmX5_drawUpOpenYear_12 : Cond.fieldLink RX5 12 "HeatBills" "now" "LHeatBills$House;" ∈ wsX5_drawUpOpenYear := List.mem_of_getElem? (i := 1) rfl
theorem hmX5_drawUpOpenYear_40 : Cond.fieldLink RX5 40 "HeatBills" "accounts" "LHeatBills$Accounts;" ∈ wsX5_drawUpOpenYear := List.mem_of_getElem? (i := 2) rfl
theorem hmX5_drawUpOpenYear_63 : Cond.fieldLink RX5 63 "HeatBills$House" "openYear" "LHeatBills$Year;" ∈ wsX5_drawUpOpenYear := List.mem_of_getElem? (i := 3) rfl
theorem hiX5_drawUpOpenYear_X5 : ∀ w ∈ wsX50, w ∈ wsX5_drawUpOpenYear := fun _ h => List.mem_cons_of_mem _ (List.mem_append_left _ (List.mem_append_left _ (List.mem_append_left _ (List.mem_append_right _ h))))
theorem hiX5_drawUpOpenYear_X2 : ∀ w ∈ wsX20, w ∈ wsX5_drawUpOpenYear := fun _ h => List.mem_cons_of_mem _ (List.mem_append_left _ (List.mem_append_left _ (List.mem_append_right _ h)))
def fX5_drawUpOpenYear (n : Nat) (μ : hb_m) : Option (hb_m) :=
bv (fX2_countUnits n 0 μ) (fun m4 =>
bv (fX0_drawUp n 0 (0 + 8) m4) (fun m22 =>
some m22))
abbrev rmX5_drawUpOpenYear : Room := { frames := 4, cells := 0, slots := 0, locals := 101 }
set_option maxRecDepth 100000 in
set_option maxHeartbeats 4000000 in
theorem tX5_drawUpOpenYear {l : Launch} {D : va_G} {ad : Nat → Nat} {dA : Nat → ClassId} {t1 t2 : Nat} (hI : hb_I 241 ad) (n : Nat) (μ : hb_m) : hb_M (hb_Qv vwCl kdX 241 ad D dA) l yX5_drawUpOpenYear wsX5_drawUpOpenYear rmX5_drawUpOpenYear vwCl kdX 241 ad D dA (tbX t1 t2) nwX [.ref (ad 228)] μ (fX5_drawUpOpenYear n μ) := by
  refine hb_start (cc := cX5_drawUpOpenYear) (maxL := 1) (ret := none) (by decide) rfl hI (Nat.le_of_ble_eq_true rfl) [(0, .ref (ad 228))] rfl ?_
  intro p e s m args below meth c hC hr
  rw [fX5_drawUpOpenYear]
  refine hr_aload_n hC dX5_drawUpOpenYear_0 rfl 0 rfl ?_
  refine hr_getR hC hiX5_drawUpOpenYear_X5 rfl kx228 0 (by decide) hmX5_drawUpOpenYear_12 rfl dX5_drawUpOpenYear_1 ?_
  refine hr_callVv (As := []) (k := 0) hC rfl (tX2_countUnits (t1 := t1) (t2 := t2) hI n 0 hx_H0 μ) (cwV 0 hC.1.2.2.2.2 gX5_drawUpOpenYear_X2_countUnits rfl rfl rfl (by decide +kernel) ⟨Nat.le_of_ble_eq_true rfl, Nat.le_of_ble_eq_true rfl⟩) (kxH hx_H0) rfl rfl rfl (Nat.le_of_ble_eq_true rfl) dX5_drawUpOpenYear_4 (fun m4 => ?_)
  refine hr_aload_n hC dX5_drawUpOpenYear_7 rfl 0 rfl ?_
  refine hr_getR hC hiX5_drawUpOpenYear_X5 rfl kx228 5 (by decide) hmX5_drawUpOpenYear_40 rfl dX5_drawUpOpenYear_8 ?_
  refine hr_aload_n hC dX5_drawUpOpenYear_11 rfl 0 rfl ?_
  refine hr_getR hC hiX5_drawUpOpenYear_X5 rfl kx228 0 (by decide) hmX5_drawUpOpenYear_12 rfl dX5_drawUpOpenYear_12 ?_
  refine hr_aload_n hC dX5_drawUpOpenYear_15 rfl 0 rfl ?_
  refine hr_getR hC hiX5_drawUpOpenYear_X5 rfl kx228 0 (by decide) hmX5_drawUpOpenYear_12 rfl dX5_drawUpOpenYear_16 ?_
  refine hr_getR hC hiX5_drawUpOpenYear_X2 rfl (kxH hx_H0) 9 (by decide) hmX5_drawUpOpenYear_63 rfl dX5_drawUpOpenYear_19 ?_
  refine hr_callVv (As := [.ref (ad 0), .ref (ad (0 + 8))]) (k := 235) hC rfl (tX0_drawUp (t1 := t1) (t2 := t2) hI n 0 hx_H0 (0 + 8) (hx_Yo hx_H0) m4) (cwV 2 hC.1.2.2.2.2 gX5_drawUpOpenYear_X0_drawUp rfl rfl rfl (by decide +kernel) ⟨Nat.le_of_ble_eq_true rfl, Nat.le_of_ble_eq_true rfl⟩) kx235 rfl rfl rfl (Nat.le_of_ble_eq_true rfl) dX5_drawUpOpenYear_22 (fun m22 => ?_)
  exact hr_vret hC hr dX5_drawUpOpenYear_25
theorem hmX0_billOfFlat_15 : Cond.fieldLink RX0 15 "HeatBills$Accounts" "baseCosts" "[I" ∈ wsX0_billOfFlat := List.mem_of_getElem? (i := 1) rfl
theorem hmX0_billOfFlat_18 : Cond.fieldLink RX0 18 "HeatBills$Accounts" "unitCosts" "[I" ∈ wsX0_billOfFlat := List.mem_of_getElem? (i := 2) rfl
theorem hiX0_billOfFlat_X0 : ∀ w ∈ wsX00, w ∈ wsX0_billOfFlat := fun _ h => List.mem_cons_of_mem _ (List.mem_append_right _ h)
def fX0_billOfFlat (n : Nat) (p1 : Int32) (μ : hb_m) : Option (Int32 × hb_m) :=
if ib p1 8 then
if ib p1 8 then
some (((rd μ 237 p1.toNatClampNeg) + (rd μ 238 p1.toNatClampNeg)), μ)
else none
else none
abbrev rmX0_billOfFlat : Room := { frames := 0, cells := 0, slots := 0, locals := 0 }
set_option maxRecDepth 100000 in
set_option maxHeartbeats 4000000 in
theorem tX0_billOfFlat {l : Launch} {D : va_G} {ad : Nat → Nat} {dA : Nat → ClassId} {t1 t2 : Nat} (hI : hb_I 241 ad) (n : Nat) (p1 : Int32) (μ : hb_m) : hb_M (hb_Qi vwCl kdX 241 ad D dA) l yX0_billOfFlat wsX0_billOfFlat rmX0_billOfFlat vwCl kdX 241 ad D dA (tbX t1 t2) nwX [.ref (ad 235), .int p1] μ (fX0_billOfFlat n p1 μ) := by
  refine hb_start (cc := cX0_billOfFlat) (maxL := 2) (ret := (some .int)) (by decide) rfl hI (Nat.le_of_ble_eq_true rfl) [(0, .ref (ad 235)), (1, .int p1)] rfl ?_
  intro p e s m args below meth c hC hr
  rw [fX0_billOfFlat]
  refine hr_aload_n hC dX0_billOfFlat_0 rfl 0 rfl ?_
  refine hr_getR hC hiX0_billOfFlat_X0 rfl kx235 1 (by decide) hmX0_billOfFlat_15 rfl dX0_billOfFlat_1 ?_
  refine hr_iload_n hC dX0_billOfFlat_4 rfl 1 rfl ?_
  refine hr_iald hC kx237 dX0_billOfFlat_5 ?_
  refine hr_aload_n hC dX0_billOfFlat_6 rfl 0 rfl ?_
  refine hr_getR hC hiX0_billOfFlat_X0 rfl kx235 2 (by decide) hmX0_billOfFlat_18 rfl dX0_billOfFlat_7 ?_
  refine hr_iload_n hC dX0_billOfFlat_10 rfl 1 rfl ?_
  refine hr_iald hC kx238 dX0_billOfFlat_11 ?_
  refine hr_iadd hC dX0_billOfFlat_12 ?_
  exact hr_ireti hC hr dX0_billOfFlat_13
theorem hmX4_thousandthsOfFirst_25 : Cond.fieldLink RX4 25 "HeatBills$Year" "parts" "[I" ∈ wsX4_thousandthsOfFirst := List.mem_of_getElem? (i := 1) rfl
theorem hmX4_thousandthsOfFirst_21 : Cond.fieldLink RX4 21 "HeatBills$Year" "moveMonths" "[I" ∈ wsX4_thousandthsOfFirst := List.mem_of_getElem? (i := 2) rfl
theorem hmX4_thousandthsOfFirst_ini_X5_weightsAhead : Cond.initialized yX5_weightsAhead.cls ∈ wsX4_thousandthsOfFirst := List.mem_of_getElem? (i := 4) rfl
theorem hmX4_thousandthsOfFirst_sta_X5_weightsAhead : Cond.static yX5_weightsAhead ∈ wsX4_thousandthsOfFirst := List.mem_of_getElem? (i := 3) rfl
theorem hiX4_thousandthsOfFirst_X4 : ∀ w ∈ wsX40, w ∈ wsX4_thousandthsOfFirst := fun _ h => List.mem_cons_of_mem _ (List.mem_append_right _ h)
def fX4_thousandthsOfFirst (n : Nat) (c0 : Nat) (p1 : Int32) (μ : hb_m) : Option (Int32 × hb_m) :=
if ib p1 8 then
if (rd μ (c0 + 2) p1.toNatClampNeg) = (-5 : Int32) then
(if ib p1 8 then
bi (fX5_weightsAhead n (rd μ (c0 + 1) p1.toNatClampNeg) μ) (fun r26 m26 =>
some (r26, m26))
else none)
else
(if ib p1 8 then
some ((rd μ (c0 + 2) p1.toNatClampNeg), μ)
else none)
else none
abbrev rmX4_thousandthsOfFirst : Room := { frames := 1, cells := 0, slots := 0, locals := 22 }
set_option maxRecDepth 100000 in
set_option maxHeartbeats 4000000 in
theorem tX4_thousandthsOfFirst {l : Launch} {D : va_G} {ad : Nat → Nat} {dA : Nat → ClassId} {t1 t2 : Nat} (hI : hb_I 241 ad) (n : Nat) (c0 : Nat) (h0 : hx_Y c0) (p1 : Int32) (μ : hb_m) : hb_M (hb_Qi vwCl kdX 241 ad D dA) l yX4_thousandthsOfFirst wsX4_thousandthsOfFirst rmX4_thousandthsOfFirst vwCl kdX 241 ad D dA (tbX t1 t2) nwX [.ref (ad c0), .int p1] μ (fX4_thousandthsOfFirst n c0 p1 μ) := by
  refine hb_start (cc := cX4_thousandthsOfFirst) (maxL := 2) (ret := (some .int)) (by decide) rfl hI (Nat.le_of_ble_eq_true rfl) [(0, .ref (ad c0)), (1, .int p1)] rfl ?_
  intro p e s m args below meth c hC hr
  rw [fX4_thousandthsOfFirst]
  refine hr_aload_n hC dX4_thousandthsOfFirst_0 rfl 0 rfl ?_
  refine hr_getR hC hiX4_thousandthsOfFirst_X4 rfl (kxY h0) 4 (by decide) hmX4_thousandthsOfFirst_25 rfl dX4_thousandthsOfFirst_1 ?_
  refine hr_iload_n hC dX4_thousandthsOfFirst_4 rfl 1 rfl ?_
  refine hr_iald hC (kxY2 h0) dX4_thousandthsOfFirst_5 ?_
  refine hr_bipush (v := -5) hC dX4_thousandthsOfFirst_6 (by decide) ?_
  refine hr_icmp_eq (tgt := 20) hC dX4_thousandthsOfFirst_8 (by decide) (fun _ => ?_) (fun _ => ?_)
  · refine hr_aload_n hC dX4_thousandthsOfFirst_20 rfl 0 rfl ?_
    refine hr_getR hC hiX4_thousandthsOfFirst_X4 rfl (kxY h0) 3 (by decide) hmX4_thousandthsOfFirst_21 rfl dX4_thousandthsOfFirst_21 ?_
    refine hr_iload_n hC dX4_thousandthsOfFirst_24 rfl 1 rfl ?_
    refine hr_iald hC (kxY1 h0) dX4_thousandthsOfFirst_25 ?_
    refine hr_callSNi (As := [.int (rd μ (c0 + 1) p1.toNatClampNeg)]) hC rfl (tX5_weightsAhead (t1 := t1) (t2 := t2) hI n (rd μ (c0 + 1) p1.toNatClampNeg) μ) ⟨va_cnB 1 hC.1.2.2.2.2 gX4_thousandthsOfFirst_X5_weightsAhead_n49 rfl rfl rfl (hC.2.2.2.2.1 _ nwX_3) (hC.1.2.2.2.2 _ hmX4_thousandthsOfFirst_ini_X5_weightsAhead) (by decide +kernel) ⟨Nat.le_of_ble_eq_true rfl, Nat.le_of_ble_eq_true rfl⟩, hC.1.2.2.2.2 _ hmX4_thousandthsOfFirst_sta_X5_weightsAhead, trivial⟩ rfl (Nat.le_of_ble_eq_true rfl) dX4_thousandthsOfFirst_26 (fun r26 m26 => ?_)
    exact hr_ireti hC hr dX4_thousandthsOfFirst_29
  · refine hr_aload_n hC dX4_thousandthsOfFirst_11 rfl 0 rfl ?_
    refine hr_getR hC hiX4_thousandthsOfFirst_X4 rfl (kxY h0) 4 (by decide) hmX4_thousandthsOfFirst_25 rfl dX4_thousandthsOfFirst_12 ?_
    refine hr_iload_n hC dX4_thousandthsOfFirst_15 rfl 1 rfl ?_
    refine hr_iald hC (kxY2 h0) dX4_thousandthsOfFirst_16 ?_
    refine hr_goto (tgt := 29) hC dX4_thousandthsOfFirst_17 (by decide) ?_
    exact hr_ireti hC hr dX4_thousandthsOfFirst_29

theorem hmX6_addDevice_7 : Cond.fieldLink RX6 7 "HeatBillsModel" "s" "[I" ∈ wsX6_addDevice := List.mem_of_getElem? (i := 1) rfl
theorem hiX6_addDevice_X6 : ∀ w ∈ wsX60, w ∈ wsX6_addDevice := fun _ h => List.mem_cons_of_mem _ (List.mem_append_right _ h)
def fX6_addDevice (n : Nat) (p1 : Int32) (p2 : Int32) (μ : hb_m) : Option (Int32 × hb_m) :=
bi (fX6_isFlat n p1 μ) (fun r2 m2 =>
if r2 = 0 then
(some ((-1 : Int32), m2))
else
(bi (fX6_in n p2 (1 : Int32) (20 : Int32) m2) (fun r14 m14 =>
if r14 = 0 then
(some ((-2 : Int32), m14))
else
(if ib (1 : Int32) 415 then
if (rd m14 1 (1 : Int32).toNatClampNeg) = (20 : Int32) then
(some ((-3 : Int32), m14))
else
(bv (fX6_records n m14) (fun m40 =>
bv (fX6_puts n (rd m14 1 (1 : Int32).toNatClampNeg) (0 : Int32) p1 m40) (fun m47 =>
bv (fX6_puts n (rd m14 1 (1 : Int32).toNatClampNeg) (1 : Int32) p2 m47) (fun m54 =>
bv (fX6_puts n (rd m14 1 (1 : Int32).toNatClampNeg) (2 : Int32) (0 : Int32) m54) (fun m61 =>
bv (fX6_puts n (rd m14 1 (1 : Int32).toNatClampNeg) (3 : Int32) (0 : Int32) m61) (fun m68 =>
bv (fX6_puts n (rd m14 1 (1 : Int32).toNatClampNeg) (4 : Int32) (0 : Int32) m68) (fun m75 =>
if ib (1 : Int32) 415 then
if ib (1 : Int32) 415 then
some ((rd m14 1 (1 : Int32).toNatClampNeg), (wr m75 1 (1 : Int32).toNatClampNeg ((rd m75 1 (1 : Int32).toNatClampNeg) + (1 : Int32))))
else none
else none)))))))
else none))))
abbrev rmX6_addDevice : Room := { frames := 2, cells := 0, slots := 0, locals := 45 }
set_option maxRecDepth 100000 in
set_option maxHeartbeats 4000000 in
theorem tX6_addDevice {l : Launch} {D : va_G} {ad : Nat → Nat} {dA : Nat → ClassId} (hI : hb_I 12 ad) (n : Nat) (p1 : Int32) (p2 : Int32) (μ : hb_m) : hb_M (hb_Qi vwCl kdM 12 ad D dA) l yX6_addDevice wsX6_addDevice rmX6_addDevice vwCl kdM 12 ad D dA [] [] [.ref (ad 0), .int p1, .int p2] μ (fX6_addDevice n p1 p2 μ) := by
  refine hb_start (cc := cX6_addDevice) (maxL := 4) (ret := (some .int)) (by decide) rfl hI (Nat.le_of_ble_eq_true rfl) [(0, .ref (ad 0)), (1, .int p1), (2, .int p2)] rfl ?_
  intro p e s m args below meth c hC hr
  rw [fX6_addDevice]
  refine hr_aload_n hC dX6_addDevice_0 rfl 0 rfl ?_
  refine hr_iload_n hC dX6_addDevice_1 rfl 1 rfl ?_
  refine hr_callVi (As := [.int p1]) (k := 0) hC rfl (tX6_isFlat hI n p1 μ) (cwV 1 hC.1.2.2.2.2 gX6_addDevice_X6_isFlat rfl rfl rfl (by decide +kernel) ⟨Nat.le_of_ble_eq_true rfl, Nat.le_of_ble_eq_true rfl⟩) km0 rfl rfl rfl (Nat.le_of_ble_eq_true rfl) dX6_addDevice_2 (fun r2 m2 => ?_)
  refine hr_if_ne (tgt := 10) hC dX6_addDevice_5 (by decide) (fun _ => ?_) (fun _ => ?_)
  · refine hr_iconst (v := -1) hC dX6_addDevice_8 (by decide) ?_
    exact hr_ireti hC hr dX6_addDevice_9
  · refine hr_iload_n hC dX6_addDevice_10 rfl 2 rfl ?_
    refine hr_iconst (v := 1) hC dX6_addDevice_11 (by decide) ?_
    refine hr_bipush (v := 20) hC dX6_addDevice_12 (by decide) ?_
    refine hr_callSi (As := [.int p2, .int (1 : Int32), .int (20 : Int32)]) hC rfl (tX6_in hI n p2 (1 : Int32) (20 : Int32) m2) (va_cwS 3 hC.1.2.2.2.2 gX6_addDevice_X6_in rfl rfl rfl (by decide +kernel) ⟨Nat.le_of_ble_eq_true rfl, Nat.le_of_ble_eq_true rfl⟩) rfl (Nat.le_of_ble_eq_true rfl) dX6_addDevice_14 (fun r14 m14 => ?_)
    refine hr_if_ne (tgt := 23) hC dX6_addDevice_17 (by decide) (fun _ => ?_) (fun _ => ?_)
    · refine hr_bipush (v := -2) hC dX6_addDevice_20 (by decide) ?_
      exact hr_ireti hC hr dX6_addDevice_22
    · refine hr_aload_n hC dX6_addDevice_23 rfl 0 rfl ?_
      refine hr_getR hC hiX6_addDevice_X6 rfl km0 0 (by decide) hmX6_addDevice_7 rfl dX6_addDevice_24 ?_
      refine hr_iconst (v := 1) hC dX6_addDevice_27 (by decide) ?_
      refine hr_iald hC km1 dX6_addDevice_28 ?_
      refine hr_istore_n (lv' := [(3, .int (rd m14 1 (1 : Int32).toNatClampNeg)), (0, .ref (ad 0)), (1, .int p1), (2, .int p2)]) hC dX6_addDevice_29 rfl (by decide) rfl ?_
      refine hr_iload_n hC dX6_addDevice_30 rfl 0 rfl ?_
      refine hr_bipush (v := 20) hC dX6_addDevice_31 (by decide) ?_
      refine hr_icmp_ne (tgt := 39) hC dX6_addDevice_33 (by decide) (fun _ => ?_) (fun _ => ?_)
      · refine hr_bipush (v := -3) hC dX6_addDevice_36 (by decide) ?_
        exact hr_ireti hC hr dX6_addDevice_38
      · refine hr_aload_n hC dX6_addDevice_39 rfl 1 rfl ?_
        refine hr_callVv (As := []) (k := 0) hC rfl (tX6_records hI n m14) (cwV 0 hC.1.2.2.2.2 gX6_addDevice_X6_records rfl rfl rfl (by decide +kernel) ⟨Nat.le_of_ble_eq_true rfl, Nat.le_of_ble_eq_true rfl⟩) km0 rfl rfl rfl (Nat.le_of_ble_eq_true rfl) dX6_addDevice_40 (fun m40 => ?_)
        refine hr_aload_n hC dX6_addDevice_43 rfl 1 rfl ?_
        refine hr_iload_n hC dX6_addDevice_44 rfl 0 rfl ?_
        refine hr_iconst (v := 0) hC dX6_addDevice_45 (by decide) ?_
        refine hr_iload_n hC dX6_addDevice_46 rfl 2 rfl ?_
        refine hr_callVv (As := [.int (rd m14 1 (1 : Int32).toNatClampNeg), .int (0 : Int32), .int p1]) (k := 0) hC rfl (tX6_puts hI n (rd m14 1 (1 : Int32).toNatClampNeg) (0 : Int32) p1 m40) (cwV 3 hC.1.2.2.2.2 gX6_addDevice_X6_puts rfl rfl rfl (by decide +kernel) ⟨Nat.le_of_ble_eq_true rfl, Nat.le_of_ble_eq_true rfl⟩) km0 rfl rfl rfl (Nat.le_of_ble_eq_true rfl) dX6_addDevice_47 (fun m47 => ?_)
        refine hr_aload_n hC dX6_addDevice_50 rfl 1 rfl ?_
        refine hr_iload_n hC dX6_addDevice_51 rfl 0 rfl ?_
        refine hr_iconst (v := 1) hC dX6_addDevice_52 (by decide) ?_
        refine hr_iload_n hC dX6_addDevice_53 rfl 3 rfl ?_
        refine hr_callVv (As := [.int (rd m14 1 (1 : Int32).toNatClampNeg), .int (1 : Int32), .int p2]) (k := 0) hC rfl (tX6_puts hI n (rd m14 1 (1 : Int32).toNatClampNeg) (1 : Int32) p2 m47) (cwV 3 hC.1.2.2.2.2 gX6_addDevice_X6_puts rfl rfl rfl (by decide +kernel) ⟨Nat.le_of_ble_eq_true rfl, Nat.le_of_ble_eq_true rfl⟩) km0 rfl rfl rfl (Nat.le_of_ble_eq_true rfl) dX6_addDevice_54 (fun m54 => ?_)
        refine hr_aload_n hC dX6_addDevice_57 rfl 1 rfl ?_
        refine hr_iload_n hC dX6_addDevice_58 rfl 0 rfl ?_
        refine hr_iconst (v := 2) hC dX6_addDevice_59 (by decide) ?_
        refine hr_iconst (v := 0) hC dX6_addDevice_60 (by decide) ?_
        refine hr_callVv (As := [.int (rd m14 1 (1 : Int32).toNatClampNeg), .int (2 : Int32), .int (0 : Int32)]) (k := 0) hC rfl (tX6_puts hI n (rd m14 1 (1 : Int32).toNatClampNeg) (2 : Int32) (0 : Int32) m54) (cwV 3 hC.1.2.2.2.2 gX6_addDevice_X6_puts rfl rfl rfl (by decide +kernel) ⟨Nat.le_of_ble_eq_true rfl, Nat.le_of_ble_eq_true rfl⟩) km0 rfl rfl rfl (Nat.le_of_ble_eq_true rfl) dX6_addDevice_61 (fun m61 => ?_)
        refine hr_aload_n hC dX6_addDevice_64 rfl 1 rfl ?_
        refine hr_iload_n hC dX6_addDevice_65 rfl 0 rfl ?_
        refine hr_iconst (v := 3) hC dX6_addDevice_66 (by decide) ?_
        refine hr_iconst (v := 0) hC dX6_addDevice_67 (by decide) ?_
        refine hr_callVv (As := [.int (rd m14 1 (1 : Int32).toNatClampNeg), .int (3 : Int32), .int (0 : Int32)]) (k := 0) hC rfl (tX6_puts hI n (rd m14 1 (1 : Int32).toNatClampNeg) (3 : Int32) (0 : Int32) m61) (cwV 3 hC.1.2.2.2.2 gX6_addDevice_X6_puts rfl rfl rfl (by decide +kernel) ⟨Nat.le_of_ble_eq_true rfl, Nat.le_of_ble_eq_true rfl⟩) km0 rfl rfl rfl (Nat.le_of_ble_eq_true rfl) dX6_addDevice_68 (fun m68 => ?_)
        refine hr_aload_n hC dX6_addDevice_71 rfl 1 rfl ?_
        refine hr_iload_n hC dX6_addDevice_72 rfl 0 rfl ?_
        refine hr_iconst (v := 4) hC dX6_addDevice_73 (by decide) ?_
        refine hr_iconst (v := 0) hC dX6_addDevice_74 (by decide) ?_
        refine hr_callVv (As := [.int (rd m14 1 (1 : Int32).toNatClampNeg), .int (4 : Int32), .int (0 : Int32)]) (k := 0) hC rfl (tX6_puts hI n (rd m14 1 (1 : Int32).toNatClampNeg) (4 : Int32) (0 : Int32) m68) (cwV 3 hC.1.2.2.2.2 gX6_addDevice_X6_puts rfl rfl rfl (by decide +kernel) ⟨Nat.le_of_ble_eq_true rfl, Nat.le_of_ble_eq_true rfl⟩) km0 rfl rfl rfl (Nat.le_of_ble_eq_true rfl) dX6_addDevice_75 (fun m75 => ?_)
        refine hr_aload_n hC dX6_addDevice_78 rfl 1 rfl ?_
        refine hr_getR hC hiX6_addDevice_X6 rfl km0 0 (by decide) hmX6_addDevice_7 rfl dX6_addDevice_79 ?_
        refine hr_iconst (v := 1) hC dX6_addDevice_82 (by decide) ?_
        refine hr_dup2 hC dX6_addDevice_83 rfl rfl ?_
        refine hr_iald hC km1 dX6_addDevice_84 ?_
        refine hr_iconst (v := 1) hC dX6_addDevice_85 (by decide) ?_
        refine hr_iadd hC dX6_addDevice_86 ?_
        refine hr_iast hC km1 dX6_addDevice_87 ?_
        refine hr_iload_n hC dX6_addDevice_88 rfl 0 rfl ?_
        exact hr_ireti hC hr dX6_addDevice_89
theorem hmX6_set_122 : Cond.constant RX6 122 (99999) ∈ wsX6_set := List.mem_of_getElem? (i := 1) rfl
theorem hmX6_set_7 : Cond.fieldLink RX6 7 "HeatBillsModel" "s" "[I" ∈ wsX6_set := List.mem_of_getElem? (i := 2) rfl
theorem hiX6_set_X6 : ∀ w ∈ wsX60, w ∈ wsX6_set := fun _ h => List.mem_cons_of_mem _ (List.mem_append_right _ h)
def fX6_set (n : Nat) (p1 : Int32) (p2 : Int32) (μ : hb_m) : Option (Int32 × hb_m) :=
bi (fX6_in n p1 (0 : Int32) (2 : Int32) μ) (fun r3 m3 =>
if r3 = 0 then
(some ((-2 : Int32), m3))
else
(if p1 = 0 then
(bi (fX6_in n p2 (0 : Int32) (99999 : Int32) m3) (fun r31 m31 =>
if r31 = 0 then
(some ((-2 : Int32), m31))
else
(if ib ((3 : Int32) + p1) 415 then
if (rd m31 1 ((3 : Int32) + p1).toNatClampNeg) = p2 then
(some ((-5 : Int32), m31))
else
(bv (fX6_records n m31) (fun m58 =>
if ib ((3 : Int32) + p1) 415 then
some ((rd m31 1 ((3 : Int32) + p1).toNatClampNeg), (wr m58 1 ((3 : Int32) + p1).toNatClampNeg p2))
else none))
else none)))
else
(if p1 = (1 : Int32) then
(bi (fX6_in n p2 (0 : Int32) (100 : Int32) m3) (fun r31 m31 =>
if r31 = 0 then
(some ((-2 : Int32), m31))
else
(if ib ((3 : Int32) + p1) 415 then
if (rd m31 1 ((3 : Int32) + p1).toNatClampNeg) = p2 then
(some ((-5 : Int32), m31))
else
(bv (fX6_records n m31) (fun m58 =>
if ib ((3 : Int32) + p1) 415 then
some ((rd m31 1 ((3 : Int32) + p1).toNatClampNeg), (wr m58 1 ((3 : Int32) + p1).toNatClampNeg p2))
else none))
else none)))
else
(bi (fX6_in n p2 (0 : Int32) (1 : Int32) m3) (fun r31 m31 =>
if r31 = 0 then
(some ((-2 : Int32), m31))
else
(if ib ((3 : Int32) + p1) 415 then
if (rd m31 1 ((3 : Int32) + p1).toNatClampNeg) = p2 then
(some ((-5 : Int32), m31))
else
(bv (fX6_records n m31) (fun m58 =>
if ib ((3 : Int32) + p1) 415 then
some ((rd m31 1 ((3 : Int32) + p1).toNatClampNeg), (wr m58 1 ((3 : Int32) + p1).toNatClampNeg p2))
else none))
else none))))))
abbrev rmX6_set : Room := { frames := 2, cells := 0, slots := 0, locals := 45 }
set_option maxRecDepth 100000 in
set_option maxHeartbeats 4000000 in
theorem tX6_set {l : Launch} {D : va_G} {ad : Nat → Nat} {dA : Nat → ClassId} (hI : hb_I 12 ad) (n : Nat) (p1 : Int32) (p2 : Int32) (μ : hb_m) : hb_M (hb_Qi vwCl kdM 12 ad D dA) l yX6_set wsX6_set rmX6_set vwCl kdM 12 ad D dA [] [] [.ref (ad 0), .int p1, .int p2] μ (fX6_set n p1 p2 μ) := by
  refine hb_start (cc := cX6_set) (maxL := 4) (ret := (some .int)) (by decide) rfl hI (Nat.le_of_ble_eq_true rfl) [(0, .ref (ad 0)), (1, .int p1), (2, .int p2)] rfl ?_
  intro p e s m args below meth c hC hr
  rw [fX6_set]
  refine hr_iload_n hC dX6_set_0 rfl 1 rfl ?_
  refine hr_iconst (v := 0) hC dX6_set_1 (by decide) ?_
  refine hr_iconst (v := 2) hC dX6_set_2 (by decide) ?_
  refine hr_callSi (As := [.int p1, .int (0 : Int32), .int (2 : Int32)]) hC rfl (tX6_in hI n p1 (0 : Int32) (2 : Int32) μ) (va_cwS 3 hC.1.2.2.2.2 gX6_set_X6_in rfl rfl rfl (by decide +kernel) ⟨Nat.le_of_ble_eq_true rfl, Nat.le_of_ble_eq_true rfl⟩) rfl (Nat.le_of_ble_eq_true rfl) dX6_set_3 (fun r3 m3 => ?_)
  refine hr_if_eq (tgt := 37) hC dX6_set_6 (by decide) (fun _ => ?_) (fun _ => ?_)
  · refine hr_bipush (v := -2) hC dX6_set_37 (by decide) ?_
    exact hr_ireti hC hr dX6_set_39
  · refine hr_iload_n hC dX6_set_9 rfl 2 rfl ?_
    refine hr_iconst (v := 0) hC dX6_set_10 (by decide) ?_
    refine hr_iload_n hC dX6_set_11 rfl 1 rfl ?_
    refine hr_if_ne (tgt := 20) hC dX6_set_12 (by decide) (fun _ => ?_) (fun _ => ?_)
    · refine hr_ldc (v := 99999) hC dX6_set_15 hmX6_set_122 ?_
      refine hr_goto (tgt := 31) hC dX6_set_17 (by decide) ?_
      refine hr_callSi (As := [.int p2, .int (0 : Int32), .int (99999 : Int32)]) hC rfl (tX6_in hI n p2 (0 : Int32) (99999 : Int32) m3) (va_cwS 3 hC.1.2.2.2.2 gX6_set_X6_in rfl rfl rfl (by decide +kernel) ⟨Nat.le_of_ble_eq_true rfl, Nat.le_of_ble_eq_true rfl⟩) rfl (Nat.le_of_ble_eq_true rfl) dX6_set_31 (fun r31 m31 => ?_)
      refine hr_if_ne (tgt := 40) hC dX6_set_34 (by decide) (fun _ => ?_) (fun _ => ?_)
      · refine hr_bipush (v := -2) hC dX6_set_37 (by decide) ?_
        exact hr_ireti hC hr dX6_set_39
      · refine hr_aload_n hC dX6_set_40 rfl 0 rfl ?_
        refine hr_getR hC hiX6_set_X6 rfl km0 0 (by decide) hmX6_set_7 rfl dX6_set_41 ?_
        refine hr_iconst (v := 3) hC dX6_set_44 (by decide) ?_
        refine hr_iload_n hC dX6_set_45 rfl 1 rfl ?_
        refine hr_iadd hC dX6_set_46 ?_
        refine hr_iald hC km1 dX6_set_47 ?_
        refine hr_istore_n (lv' := [(3, .int (rd m31 1 ((3 : Int32) + p1).toNatClampNeg)), (0, .ref (ad 0)), (1, .int p1), (2, .int p2)]) hC dX6_set_48 rfl (by decide) rfl ?_
        refine hr_iload_n hC dX6_set_49 rfl 0 rfl ?_
        refine hr_iload_n hC dX6_set_50 rfl 3 rfl ?_
        refine hr_icmp_ne (tgt := 57) hC dX6_set_51 (by decide) (fun _ => ?_) (fun _ => ?_)
        · refine hr_bipush (v := -5) hC dX6_set_54 (by decide) ?_
          exact hr_ireti hC hr dX6_set_56
        · refine hr_aload_n hC dX6_set_57 rfl 1 rfl ?_
          refine hr_callVv (As := []) (k := 0) hC rfl (tX6_records hI n m31) (cwV 0 hC.1.2.2.2.2 gX6_set_X6_records rfl rfl rfl (by decide +kernel) ⟨Nat.le_of_ble_eq_true rfl, Nat.le_of_ble_eq_true rfl⟩) km0 rfl rfl rfl (Nat.le_of_ble_eq_true rfl) dX6_set_58 (fun m58 => ?_)
          refine hr_aload_n hC dX6_set_61 rfl 1 rfl ?_
          refine hr_getR hC hiX6_set_X6 rfl km0 0 (by decide) hmX6_set_7 rfl dX6_set_62 ?_
          refine hr_iconst (v := 3) hC dX6_set_65 (by decide) ?_
          refine hr_iload_n hC dX6_set_66 rfl 2 rfl ?_
          refine hr_iadd hC dX6_set_67 ?_
          refine hr_iload_n hC dX6_set_68 rfl 3 rfl ?_
          refine hr_iast hC km1 dX6_set_69 ?_
          refine hr_iload_n hC dX6_set_70 rfl 0 rfl ?_
          exact hr_ireti hC hr dX6_set_71
    · refine hr_iload_n hC dX6_set_20 rfl 1 rfl ?_
      refine hr_iconst (v := 1) hC dX6_set_21 (by decide) ?_
      refine hr_icmp_ne (tgt := 30) hC dX6_set_22 (by decide) (fun _ => ?_) (fun _ => ?_)
      · refine hr_bipush (v := 100) hC dX6_set_25 (by decide) ?_
        refine hr_goto (tgt := 31) hC dX6_set_27 (by decide) ?_
        refine hr_callSi (As := [.int p2, .int (0 : Int32), .int (100 : Int32)]) hC rfl (tX6_in hI n p2 (0 : Int32) (100 : Int32) m3) (va_cwS 3 hC.1.2.2.2.2 gX6_set_X6_in rfl rfl rfl (by decide +kernel) ⟨Nat.le_of_ble_eq_true rfl, Nat.le_of_ble_eq_true rfl⟩) rfl (Nat.le_of_ble_eq_true rfl) dX6_set_31 (fun r31 m31 => ?_)
        refine hr_if_ne (tgt := 40) hC dX6_set_34 (by decide) (fun _ => ?_) (fun _ => ?_)
        · refine hr_bipush (v := -2) hC dX6_set_37 (by decide) ?_
          exact hr_ireti hC hr dX6_set_39
        · refine hr_aload_n hC dX6_set_40 rfl 0 rfl ?_
          refine hr_getR hC hiX6_set_X6 rfl km0 0 (by decide) hmX6_set_7 rfl dX6_set_41 ?_
          refine hr_iconst (v := 3) hC dX6_set_44 (by decide) ?_
          refine hr_iload_n hC dX6_set_45 rfl 1 rfl ?_
          refine hr_iadd hC dX6_set_46 ?_
          refine hr_iald hC km1 dX6_set_47 ?_
          refine hr_istore_n (lv' := [(3, .int (rd m31 1 ((3 : Int32) + p1).toNatClampNeg)), (0, .ref (ad 0)), (1, .int p1), (2, .int p2)]) hC dX6_set_48 rfl (by decide) rfl ?_
          refine hr_iload_n hC dX6_set_49 rfl 0 rfl ?_
          refine hr_iload_n hC dX6_set_50 rfl 3 rfl ?_
          refine hr_icmp_ne (tgt := 57) hC dX6_set_51 (by decide) (fun _ => ?_) (fun _ => ?_)
          · refine hr_bipush (v := -5) hC dX6_set_54 (by decide) ?_
            exact hr_ireti hC hr dX6_set_56
          · refine hr_aload_n hC dX6_set_57 rfl 1 rfl ?_
            refine hr_callVv (As := []) (k := 0) hC rfl (tX6_records hI n m31) (cwV 0 hC.1.2.2.2.2 gX6_set_X6_records rfl rfl rfl (by decide +kernel) ⟨Nat.le_of_ble_eq_true rfl, Nat.le_of_ble_eq_true rfl⟩) km0 rfl rfl rfl (Nat.le_of_ble_eq_true rfl) dX6_set_58 (fun m58 => ?_)
            refine hr_aload_n hC dX6_set_61 rfl 1 rfl ?_
            refine hr_getR hC hiX6_set_X6 rfl km0 0 (by decide) hmX6_set_7 rfl dX6_set_62 ?_
            refine hr_iconst (v := 3) hC dX6_set_65 (by decide) ?_
            refine hr_iload_n hC dX6_set_66 rfl 2 rfl ?_
            refine hr_iadd hC dX6_set_67 ?_
            refine hr_iload_n hC dX6_set_68 rfl 3 rfl ?_
            refine hr_iast hC km1 dX6_set_69 ?_
            refine hr_iload_n hC dX6_set_70 rfl 0 rfl ?_
            exact hr_ireti hC hr dX6_set_71
      · refine hr_iconst (v := 1) hC dX6_set_30 (by decide) ?_
        refine hr_callSi (As := [.int p2, .int (0 : Int32), .int (1 : Int32)]) hC rfl (tX6_in hI n p2 (0 : Int32) (1 : Int32) m3) (va_cwS 3 hC.1.2.2.2.2 gX6_set_X6_in rfl rfl rfl (by decide +kernel) ⟨Nat.le_of_ble_eq_true rfl, Nat.le_of_ble_eq_true rfl⟩) rfl (Nat.le_of_ble_eq_true rfl) dX6_set_31 (fun r31 m31 => ?_)
        refine hr_if_ne (tgt := 40) hC dX6_set_34 (by decide) (fun _ => ?_) (fun _ => ?_)
        · refine hr_bipush (v := -2) hC dX6_set_37 (by decide) ?_
          exact hr_ireti hC hr dX6_set_39
        · refine hr_aload_n hC dX6_set_40 rfl 0 rfl ?_
          refine hr_getR hC hiX6_set_X6 rfl km0 0 (by decide) hmX6_set_7 rfl dX6_set_41 ?_
          refine hr_iconst (v := 3) hC dX6_set_44 (by decide) ?_
          refine hr_iload_n hC dX6_set_45 rfl 1 rfl ?_
          refine hr_iadd hC dX6_set_46 ?_
          refine hr_iald hC km1 dX6_set_47 ?_
          refine hr_istore_n (lv' := [(3, .int (rd m31 1 ((3 : Int32) + p1).toNatClampNeg)), (0, .ref (ad 0)), (1, .int p1), (2, .int p2)]) hC dX6_set_48 rfl (by decide) rfl ?_
          refine hr_iload_n hC dX6_set_49 rfl 0 rfl ?_
          refine hr_iload_n hC dX6_set_50 rfl 3 rfl ?_
          refine hr_icmp_ne (tgt := 57) hC dX6_set_51 (by decide) (fun _ => ?_) (fun _ => ?_)
          · refine hr_bipush (v := -5) hC dX6_set_54 (by decide) ?_
            exact hr_ireti hC hr dX6_set_56
          · refine hr_aload_n hC dX6_set_57 rfl 1 rfl ?_
            refine hr_callVv (As := []) (k := 0) hC rfl (tX6_records hI n m31) (cwV 0 hC.1.2.2.2.2 gX6_set_X6_records rfl rfl rfl (by decide +kernel) ⟨Nat.le_of_ble_eq_true rfl, Nat.le_of_ble_eq_true rfl⟩) km0 rfl rfl rfl (Nat.le_of_ble_eq_true rfl) dX6_set_58 (fun m58 => ?_)
            refine hr_aload_n hC dX6_set_61 rfl 1 rfl ?_
            refine hr_getR hC hiX6_set_X6 rfl km0 0 (by decide) hmX6_set_7 rfl dX6_set_62 ?_
            refine hr_iconst (v := 3) hC dX6_set_65 (by decide) ?_
            refine hr_iload_n hC dX6_set_66 rfl 2 rfl ?_
            refine hr_iadd hC dX6_set_67 ?_
            refine hr_iload_n hC dX6_set_68 rfl 3 rfl ?_
            refine hr_iast hC km1 dX6_set_69 ?_
            refine hr_iload_n hC dX6_set_70 rfl 0 rfl ?_
            exact hr_ireti hC hr dX6_set_71
def fX6_read (n : Nat) (p1 : Int32) (p2 : Int32) (μ : hb_m) : Option (Int32 × hb_m) :=
bi (fX6_isDevice n p1 μ) (fun r2 m2 =>
if r2 = 0 then
(some ((-1 : Int32), m2))
else
(bi (fX6_in n p2 (0 : Int32) (9999 : Int32) m2) (fun r15 m15 =>
if r15 = 0 then
(some ((-2 : Int32), m15))
else
(bi (fX6_of n p1 (2 : Int32) m15) (fun r28 m28 =>
if r28 ≤ p2 then
(bi (fX6_of n p1 (3 : Int32) m28) (fun r41 m41 =>
if p2 = r41 then
(some ((-5 : Int32), m41))
else
(bv (fX6_records n m41) (fun m51 =>
bv (fX6_puts n p1 (3 : Int32) p2 m51) (fun m58 =>
bi (fX6_unitsNow n p1 m58) (fun r63 m63 =>
some (r63, m63)))))))
else
(some ((-4 : Int32), m28)))))))
abbrev rmX6_read : Room := { frames := 4, cells := 0, slots := 0, locals := 91 }
set_option maxRecDepth 100000 in
set_option maxHeartbeats 4000000 in
theorem tX6_read {l : Launch} {D : va_G} {ad : Nat → Nat} {dA : Nat → ClassId} (hI : hb_I 12 ad) (n : Nat) (p1 : Int32) (p2 : Int32) (μ : hb_m) : hb_M (hb_Qi vwCl kdM 12 ad D dA) l yX6_read wsX6_read rmX6_read vwCl kdM 12 ad D dA [] [] [.ref (ad 0), .int p1, .int p2] μ (fX6_read n p1 p2 μ) := by
  refine hb_start (cc := cX6_read) (maxL := 3) (ret := (some .int)) (by decide) rfl hI (Nat.le_of_ble_eq_true rfl) [(0, .ref (ad 0)), (1, .int p1), (2, .int p2)] rfl ?_
  intro p e s m args below meth c hC hr
  rw [fX6_read]
  refine hr_aload_n hC dX6_read_0 rfl 0 rfl ?_
  refine hr_iload_n hC dX6_read_1 rfl 1 rfl ?_
  refine hr_callVi (As := [.int p1]) (k := 0) hC rfl (tX6_isDevice hI n p1 μ) (cwV 1 hC.1.2.2.2.2 gX6_read_X6_isDevice rfl rfl rfl (by decide +kernel) ⟨Nat.le_of_ble_eq_true rfl, Nat.le_of_ble_eq_true rfl⟩) km0 rfl rfl rfl (Nat.le_of_ble_eq_true rfl) dX6_read_2 (fun r2 m2 => ?_)
  refine hr_if_ne (tgt := 10) hC dX6_read_5 (by decide) (fun _ => ?_) (fun _ => ?_)
  · refine hr_iconst (v := -1) hC dX6_read_8 (by decide) ?_
    exact hr_ireti hC hr dX6_read_9
  · refine hr_iload_n hC dX6_read_10 rfl 2 rfl ?_
    refine hr_iconst (v := 0) hC dX6_read_11 (by decide) ?_
    refine hr_sipush (v := 9999) hC dX6_read_12 (by decide) ?_
    refine hr_callSi (As := [.int p2, .int (0 : Int32), .int (9999 : Int32)]) hC rfl (tX6_in hI n p2 (0 : Int32) (9999 : Int32) m2) (va_cwS 3 hC.1.2.2.2.2 gX6_read_X6_in rfl rfl rfl (by decide +kernel) ⟨Nat.le_of_ble_eq_true rfl, Nat.le_of_ble_eq_true rfl⟩) rfl (Nat.le_of_ble_eq_true rfl) dX6_read_15 (fun r15 m15 => ?_)
    refine hr_if_ne (tgt := 24) hC dX6_read_18 (by decide) (fun _ => ?_) (fun _ => ?_)
    · refine hr_bipush (v := -2) hC dX6_read_21 (by decide) ?_
      exact hr_ireti hC hr dX6_read_23
    · refine hr_iload_n hC dX6_read_24 rfl 2 rfl ?_
      refine hr_aload_n hC dX6_read_25 rfl 0 rfl ?_
      refine hr_iload_n hC dX6_read_26 rfl 1 rfl ?_
      refine hr_iconst (v := 2) hC dX6_read_27 (by decide) ?_
      refine hr_callVi (As := [.int p1, .int (2 : Int32)]) (k := 0) hC rfl (tX6_of hI n p1 (2 : Int32) m15) (cwV 2 hC.1.2.2.2.2 gX6_read_X6_of rfl rfl rfl (by decide +kernel) ⟨Nat.le_of_ble_eq_true rfl, Nat.le_of_ble_eq_true rfl⟩) km0 rfl rfl rfl (Nat.le_of_ble_eq_true rfl) dX6_read_28 (fun r28 m28 => ?_)
      refine hr_icmp_ge (tgt := 37) hC dX6_read_31 (by decide) (fun _ => ?_) (fun _ => ?_)
      · refine hr_iload_n hC dX6_read_37 rfl 2 rfl ?_
        refine hr_aload_n hC dX6_read_38 rfl 0 rfl ?_
        refine hr_iload_n hC dX6_read_39 rfl 1 rfl ?_
        refine hr_iconst (v := 3) hC dX6_read_40 (by decide) ?_
        refine hr_callVi (As := [.int p1, .int (3 : Int32)]) (k := 0) hC rfl (tX6_of hI n p1 (3 : Int32) m28) (cwV 2 hC.1.2.2.2.2 gX6_read_X6_of rfl rfl rfl (by decide +kernel) ⟨Nat.le_of_ble_eq_true rfl, Nat.le_of_ble_eq_true rfl⟩) km0 rfl rfl rfl (Nat.le_of_ble_eq_true rfl) dX6_read_41 (fun r41 m41 => ?_)
        refine hr_icmp_ne (tgt := 50) hC dX6_read_44 (by decide) (fun _ => ?_) (fun _ => ?_)
        · refine hr_bipush (v := -5) hC dX6_read_47 (by decide) ?_
          exact hr_ireti hC hr dX6_read_49
        · refine hr_aload_n hC dX6_read_50 rfl 0 rfl ?_
          refine hr_callVv (As := []) (k := 0) hC rfl (tX6_records hI n m41) (cwV 0 hC.1.2.2.2.2 gX6_read_X6_records rfl rfl rfl (by decide +kernel) ⟨Nat.le_of_ble_eq_true rfl, Nat.le_of_ble_eq_true rfl⟩) km0 rfl rfl rfl (Nat.le_of_ble_eq_true rfl) dX6_read_51 (fun m51 => ?_)
          refine hr_aload_n hC dX6_read_54 rfl 0 rfl ?_
          refine hr_iload_n hC dX6_read_55 rfl 1 rfl ?_
          refine hr_iconst (v := 3) hC dX6_read_56 (by decide) ?_
          refine hr_iload_n hC dX6_read_57 rfl 2 rfl ?_
          refine hr_callVv (As := [.int p1, .int (3 : Int32), .int p2]) (k := 0) hC rfl (tX6_puts hI n p1 (3 : Int32) p2 m51) (cwV 3 hC.1.2.2.2.2 gX6_read_X6_puts rfl rfl rfl (by decide +kernel) ⟨Nat.le_of_ble_eq_true rfl, Nat.le_of_ble_eq_true rfl⟩) km0 rfl rfl rfl (Nat.le_of_ble_eq_true rfl) dX6_read_58 (fun m58 => ?_)
          refine hr_aload_n hC dX6_read_61 rfl 0 rfl ?_
          refine hr_iload_n hC dX6_read_62 rfl 1 rfl ?_
          refine hr_callVi (As := [.int p1]) (k := 0) hC rfl (tX6_unitsNow hI n p1 m58) (cwV 1 hC.1.2.2.2.2 gX6_read_X6_unitsNow rfl rfl rfl (by decide +kernel) ⟨Nat.le_of_ble_eq_true rfl, Nat.le_of_ble_eq_true rfl⟩) km0 rfl rfl rfl (Nat.le_of_ble_eq_true rfl) dX6_read_63 (fun r63 m63 => ?_)
          exact hr_ireti hC hr dX6_read_66
      · refine hr_bipush (v := -4) hC dX6_read_34 (by decide) ?_
        exact hr_ireti hC hr dX6_read_36
theorem hmX6_faulty_7 : Cond.fieldLink RX6 7 "HeatBillsModel" "s" "[I" ∈ wsX6_faulty := List.mem_of_getElem? (i := 1) rfl
theorem hiX6_faulty_X6 : ∀ w ∈ wsX60, w ∈ wsX6_faulty := fun _ h => List.mem_cons_of_mem _ (List.mem_append_right _ h)
def lX6_faulty_4 (n : Nat) (k : Int32 → Int32 → hb_m → Option (Int32 × hb_m)) : Nat → Int32 → Int32 → hb_m → Option (Int32 × hb_m)
  | 0, _, _, _ => none
  | f + 1, x2, x1, μ => if ib (1 : Int32) 415 then
if (rd μ 1 (1 : Int32).toNatClampNeg) ≤ x2 then
(k x2 x1 μ)
else
(bi (fX6_of n x2 (4 : Int32) μ) (fun r18 m18 =>
lX6_faulty_4 n k f (x2 + (1 : Int32)) (x1 + r18) m18))
else none
def fX6_faulty (n : Nat) (μ : hb_m) : Option (Int32 × hb_m) :=
lX6_faulty_4 n (fun x2_4 x1_4 m4 =>
some (x1_4, m4)) n (0 : Int32) (0 : Int32) μ
abbrev rmX6_faulty : Room := { frames := 1, cells := 0, slots := 0, locals := 22 }
set_option maxRecDepth 100000 in
set_option maxHeartbeats 4000000 in
theorem tX6_faulty {l : Launch} {D : va_G} {ad : Nat → Nat} {dA : Nat → ClassId} (hI : hb_I 12 ad) (n : Nat) (μ : hb_m) : hb_M (hb_Qi vwCl kdM 12 ad D dA) l yX6_faulty wsX6_faulty rmX6_faulty vwCl kdM 12 ad D dA [] [] [.ref (ad 0)] μ (fX6_faulty n μ) := by
  refine hb_start (cc := cX6_faulty) (maxL := 3) (ret := (some .int)) (by decide) rfl hI (Nat.le_of_ble_eq_true rfl) [(0, .ref (ad 0))] rfl ?_
  intro p e s m args below meth c hC hr
  have L4 : ∀ (k : Int32 → Int32 → hb_m → Option (Int32 × hb_m)) (hk : ∀ (x2 : Int32) (x1 : Int32) (μ : hb_m), hb_V p l e rmX6_faulty s m args below meth c 3 vwCl kdM 12 ad D dA (hb_Qi vwCl kdM 12 ad D dA) μ 29 [(2, .int x2), (1, .int x1), (0, .ref (ad 0))] [] (k x2 x1 μ)) (f : Nat) (x2 : Int32) (x1 : Int32) (μ : hb_m), hb_V p l e rmX6_faulty s m args below meth c 3 vwCl kdM 12 ad D dA (hb_Qi vwCl kdM 12 ad D dA) μ 4 [(2, .int x2), (1, .int x1), (0, .ref (ad 0))] [] (lX6_faulty_4 n k f x2 x1 μ) := by
    intro k hk f
    induction f with
    | zero => intro x2 x1 μ; rw [lX6_faulty_4]; exact hr_none
    | succ f ih =>
      intro x2 x1 μ
      rw [lX6_faulty_4]
      refine hr_iload_n hC dX6_faulty_4 rfl 0 rfl ?_
      refine hr_aload_n hC dX6_faulty_5 rfl 2 rfl ?_
      refine hr_getR hC hiX6_faulty_X6 rfl km0 0 (by decide) hmX6_faulty_7 rfl dX6_faulty_6 ?_
      refine hr_iconst (v := 1) hC dX6_faulty_9 (by decide) ?_
      refine hr_iald hC km1 dX6_faulty_10 ?_
      refine hr_icmp_ge (tgt := 29) hC dX6_faulty_11 (by decide) (fun _ => ?_) (fun _ => ?_)
      · refine hr_sub (lv' := [(2, .int x2), (1, .int x1), (0, .ref (ad 0))]) [0, 1, 2] rfl ?_
        exact hk _ _ _
      · refine hr_iload_n hC dX6_faulty_14 rfl 1 rfl ?_
        refine hr_aload_n hC dX6_faulty_15 rfl 2 rfl ?_
        refine hr_iload_n hC dX6_faulty_16 rfl 0 rfl ?_
        refine hr_iconst (v := 4) hC dX6_faulty_17 (by decide) ?_
        refine hr_callVi (As := [.int x2, .int (4 : Int32)]) (k := 0) hC rfl (tX6_of hI n x2 (4 : Int32) μ) (cwV 2 hC.1.2.2.2.2 gX6_faulty_X6_of rfl rfl rfl (by decide +kernel) ⟨Nat.le_of_ble_eq_true rfl, Nat.le_of_ble_eq_true rfl⟩) km0 rfl rfl rfl (Nat.le_of_ble_eq_true rfl) dX6_faulty_18 (fun r18 m18 => ?_)
        refine hr_iadd hC dX6_faulty_21 ?_
        refine hr_istore_n (lv' := [(1, .int (x1 + r18)), (2, .int x2), (0, .ref (ad 0))]) hC dX6_faulty_22 rfl (by decide) rfl ?_
        refine hr_iinc (v := (x2 + (1 : Int32))) (lv' := [(2, .int (x2 + (1 : Int32))), (1, .int (x1 + r18)), (0, .ref (ad 0))]) (kx := 1) hC dX6_faulty_23 rfl rfl (by decide) rfl ?_
        refine hr_goto (tgt := 4) hC dX6_faulty_26 (by decide) ?_
        refine hr_sub (lv' := [(2, .int (x2 + (1 : Int32))), (1, .int (x1 + r18)), (0, .ref (ad 0))]) [0, 1, 2] rfl ?_
        exact ih _ _ _
  rw [fX6_faulty]
  refine hr_iconst (v := 0) hC dX6_faulty_0 (by decide) ?_
  refine hr_istore_n (lv' := [(1, .int (0 : Int32)), (0, .ref (ad 0))]) hC dX6_faulty_1 rfl (by decide) rfl ?_
  refine hr_iconst (v := 0) hC dX6_faulty_2 (by decide) ?_
  refine hr_istore_n (lv' := [(2, .int (0 : Int32)), (1, .int (0 : Int32)), (0, .ref (ad 0))]) hC dX6_faulty_3 rfl (by decide) rfl ?_
  refine hr_sub (lv' := [(2, .int (0 : Int32)), (1, .int (0 : Int32)), (0, .ref (ad 0))]) [0, 1, 2] rfl ?_
  refine L4 _ (fun x2_4 x1_4 m4 => ?_) _ _ _ _
  refine hr_iload_n hC dX6_faulty_29 rfl 1 rfl ?_
  exact hr_ireti hC hr dX6_faulty_30
def fX6_mark (n : Nat) (p1 : Int32) (p2 : Int32) (μ : hb_m) : Option (Int32 × hb_m) :=
bi (fX6_isDevice n p1 μ) (fun r2 m2 =>
if r2 = 0 then
(some ((-1 : Int32), m2))
else
(bi (fX6_of n p1 (4 : Int32) m2) (fun r13 m13 =>
if p2 = 0 then
(if r13 = (0 : Int32) then
(some ((-5 : Int32), m13))
else
(bv (fX6_records n m13) (fun m32 =>
if p2 = 0 then
(bv (fX6_puts n p1 (4 : Int32) (0 : Int32) m32) (fun m47 =>
bi (fX6_faulty n m47) (fun r51 m51 =>
some (r51, m51))))
else
(bv (fX6_puts n p1 (4 : Int32) (1 : Int32) m32) (fun m47 =>
bi (fX6_faulty n m47) (fun r51 m51 =>
some (r51, m51)))))))
else
(if r13 = (1 : Int32) then
(some ((-5 : Int32), m13))
else
(bv (fX6_records n m13) (fun m32 =>
if p2 = 0 then
(bv (fX6_puts n p1 (4 : Int32) (0 : Int32) m32) (fun m47 =>
bi (fX6_faulty n m47) (fun r51 m51 =>
some (r51, m51))))
else
(bv (fX6_puts n p1 (4 : Int32) (1 : Int32) m32) (fun m47 =>
bi (fX6_faulty n m47) (fun r51 m51 =>
some (r51, m51))))))))))
abbrev rmX6_mark : Room := { frames := 2, cells := 0, slots := 0, locals := 45 }
set_option maxRecDepth 100000 in
set_option maxHeartbeats 4000000 in
theorem tX6_mark {l : Launch} {D : va_G} {ad : Nat → Nat} {dA : Nat → ClassId} (hI : hb_I 12 ad) (n : Nat) (p1 : Int32) (p2 : Int32) (μ : hb_m) : hb_M (hb_Qi vwCl kdM 12 ad D dA) l yX6_mark wsX6_mark rmX6_mark vwCl kdM 12 ad D dA [] [] [.ref (ad 0), .int p1, .int p2] μ (fX6_mark n p1 p2 μ) := by
  refine hb_start (cc := cX6_mark) (maxL := 3) (ret := (some .int)) (by decide) rfl hI (Nat.le_of_ble_eq_true rfl) [(0, .ref (ad 0)), (1, .int p1), (2, .int p2)] rfl ?_
  intro p e s m args below meth c hC hr
  rw [fX6_mark]
  refine hr_aload_n hC dX6_mark_0 rfl 0 rfl ?_
  refine hr_iload_n hC dX6_mark_1 rfl 1 rfl ?_
  refine hr_callVi (As := [.int p1]) (k := 0) hC rfl (tX6_isDevice hI n p1 μ) (cwV 1 hC.1.2.2.2.2 gX6_mark_X6_isDevice rfl rfl rfl (by decide +kernel) ⟨Nat.le_of_ble_eq_true rfl, Nat.le_of_ble_eq_true rfl⟩) km0 rfl rfl rfl (Nat.le_of_ble_eq_true rfl) dX6_mark_2 (fun r2 m2 => ?_)
  refine hr_if_ne (tgt := 10) hC dX6_mark_5 (by decide) (fun _ => ?_) (fun _ => ?_)
  · refine hr_iconst (v := -1) hC dX6_mark_8 (by decide) ?_
    exact hr_ireti hC hr dX6_mark_9
  · refine hr_aload_n hC dX6_mark_10 rfl 0 rfl ?_
    refine hr_iload_n hC dX6_mark_11 rfl 1 rfl ?_
    refine hr_iconst (v := 4) hC dX6_mark_12 (by decide) ?_
    refine hr_callVi (As := [.int p1, .int (4 : Int32)]) (k := 0) hC rfl (tX6_of hI n p1 (4 : Int32) m2) (cwV 2 hC.1.2.2.2.2 gX6_mark_X6_of rfl rfl rfl (by decide +kernel) ⟨Nat.le_of_ble_eq_true rfl, Nat.le_of_ble_eq_true rfl⟩) km0 rfl rfl rfl (Nat.le_of_ble_eq_true rfl) dX6_mark_13 (fun r13 m13 => ?_)
    refine hr_iload_n hC dX6_mark_16 rfl 2 rfl ?_
    refine hr_if_eq (tgt := 24) hC dX6_mark_17 (by decide) (fun _ => ?_) (fun _ => ?_)
    · refine hr_iconst (v := 0) hC dX6_mark_24 (by decide) ?_
      refine hr_icmp_ne (tgt := 31) hC dX6_mark_25 (by decide) (fun _ => ?_) (fun _ => ?_)
      · refine hr_bipush (v := -5) hC dX6_mark_28 (by decide) ?_
        exact hr_ireti hC hr dX6_mark_30
      · refine hr_aload_n hC dX6_mark_31 rfl 0 rfl ?_
        refine hr_callVv (As := []) (k := 0) hC rfl (tX6_records hI n m13) (cwV 0 hC.1.2.2.2.2 gX6_mark_X6_records rfl rfl rfl (by decide +kernel) ⟨Nat.le_of_ble_eq_true rfl, Nat.le_of_ble_eq_true rfl⟩) km0 rfl rfl rfl (Nat.le_of_ble_eq_true rfl) dX6_mark_32 (fun m32 => ?_)
        refine hr_aload_n hC dX6_mark_35 rfl 0 rfl ?_
        refine hr_iload_n hC dX6_mark_36 rfl 1 rfl ?_
        refine hr_iconst (v := 4) hC dX6_mark_37 (by decide) ?_
        refine hr_iload_n hC dX6_mark_38 rfl 2 rfl ?_
        refine hr_if_eq (tgt := 46) hC dX6_mark_39 (by decide) (fun _ => ?_) (fun _ => ?_)
        · refine hr_iconst (v := 0) hC dX6_mark_46 (by decide) ?_
          refine hr_callVv (As := [.int p1, .int (4 : Int32), .int (0 : Int32)]) (k := 0) hC rfl (tX6_puts hI n p1 (4 : Int32) (0 : Int32) m32) (cwV 3 hC.1.2.2.2.2 gX6_mark_X6_puts rfl rfl rfl (by decide +kernel) ⟨Nat.le_of_ble_eq_true rfl, Nat.le_of_ble_eq_true rfl⟩) km0 rfl rfl rfl (Nat.le_of_ble_eq_true rfl) dX6_mark_47 (fun m47 => ?_)
          refine hr_aload_n hC dX6_mark_50 rfl 0 rfl ?_
          refine hr_callVi (As := []) (k := 0) hC rfl (tX6_faulty hI n m47) (cwV 0 hC.1.2.2.2.2 gX6_mark_X6_faulty rfl rfl rfl (by decide +kernel) ⟨Nat.le_of_ble_eq_true rfl, Nat.le_of_ble_eq_true rfl⟩) km0 rfl rfl rfl (Nat.le_of_ble_eq_true rfl) dX6_mark_51 (fun r51 m51 => ?_)
          exact hr_ireti hC hr dX6_mark_54
        · refine hr_iconst (v := 1) hC dX6_mark_42 (by decide) ?_
          refine hr_goto (tgt := 47) hC dX6_mark_43 (by decide) ?_
          refine hr_callVv (As := [.int p1, .int (4 : Int32), .int (1 : Int32)]) (k := 0) hC rfl (tX6_puts hI n p1 (4 : Int32) (1 : Int32) m32) (cwV 3 hC.1.2.2.2.2 gX6_mark_X6_puts rfl rfl rfl (by decide +kernel) ⟨Nat.le_of_ble_eq_true rfl, Nat.le_of_ble_eq_true rfl⟩) km0 rfl rfl rfl (Nat.le_of_ble_eq_true rfl) dX6_mark_47 (fun m47 => ?_)
          refine hr_aload_n hC dX6_mark_50 rfl 0 rfl ?_
          refine hr_callVi (As := []) (k := 0) hC rfl (tX6_faulty hI n m47) (cwV 0 hC.1.2.2.2.2 gX6_mark_X6_faulty rfl rfl rfl (by decide +kernel) ⟨Nat.le_of_ble_eq_true rfl, Nat.le_of_ble_eq_true rfl⟩) km0 rfl rfl rfl (Nat.le_of_ble_eq_true rfl) dX6_mark_51 (fun r51 m51 => ?_)
          exact hr_ireti hC hr dX6_mark_54
    · refine hr_iconst (v := 1) hC dX6_mark_20 (by decide) ?_
      refine hr_goto (tgt := 25) hC dX6_mark_21 (by decide) ?_
      refine hr_icmp_ne (tgt := 31) hC dX6_mark_25 (by decide) (fun _ => ?_) (fun _ => ?_)
      · refine hr_bipush (v := -5) hC dX6_mark_28 (by decide) ?_
        exact hr_ireti hC hr dX6_mark_30
      · refine hr_aload_n hC dX6_mark_31 rfl 0 rfl ?_
        refine hr_callVv (As := []) (k := 0) hC rfl (tX6_records hI n m13) (cwV 0 hC.1.2.2.2.2 gX6_mark_X6_records rfl rfl rfl (by decide +kernel) ⟨Nat.le_of_ble_eq_true rfl, Nat.le_of_ble_eq_true rfl⟩) km0 rfl rfl rfl (Nat.le_of_ble_eq_true rfl) dX6_mark_32 (fun m32 => ?_)
        refine hr_aload_n hC dX6_mark_35 rfl 0 rfl ?_
        refine hr_iload_n hC dX6_mark_36 rfl 1 rfl ?_
        refine hr_iconst (v := 4) hC dX6_mark_37 (by decide) ?_
        refine hr_iload_n hC dX6_mark_38 rfl 2 rfl ?_
        refine hr_if_eq (tgt := 46) hC dX6_mark_39 (by decide) (fun _ => ?_) (fun _ => ?_)
        · refine hr_iconst (v := 0) hC dX6_mark_46 (by decide) ?_
          refine hr_callVv (As := [.int p1, .int (4 : Int32), .int (0 : Int32)]) (k := 0) hC rfl (tX6_puts hI n p1 (4 : Int32) (0 : Int32) m32) (cwV 3 hC.1.2.2.2.2 gX6_mark_X6_puts rfl rfl rfl (by decide +kernel) ⟨Nat.le_of_ble_eq_true rfl, Nat.le_of_ble_eq_true rfl⟩) km0 rfl rfl rfl (Nat.le_of_ble_eq_true rfl) dX6_mark_47 (fun m47 => ?_)
          refine hr_aload_n hC dX6_mark_50 rfl 0 rfl ?_
          refine hr_callVi (As := []) (k := 0) hC rfl (tX6_faulty hI n m47) (cwV 0 hC.1.2.2.2.2 gX6_mark_X6_faulty rfl rfl rfl (by decide +kernel) ⟨Nat.le_of_ble_eq_true rfl, Nat.le_of_ble_eq_true rfl⟩) km0 rfl rfl rfl (Nat.le_of_ble_eq_true rfl) dX6_mark_51 (fun r51 m51 => ?_)
          exact hr_ireti hC hr dX6_mark_54
        · refine hr_iconst (v := 1) hC dX6_mark_42 (by decide) ?_
          refine hr_goto (tgt := 47) hC dX6_mark_43 (by decide) ?_
          refine hr_callVv (As := [.int p1, .int (4 : Int32), .int (1 : Int32)]) (k := 0) hC rfl (tX6_puts hI n p1 (4 : Int32) (1 : Int32) m32) (cwV 3 hC.1.2.2.2.2 gX6_mark_X6_puts rfl rfl rfl (by decide +kernel) ⟨Nat.le_of_ble_eq_true rfl, Nat.le_of_ble_eq_true rfl⟩) km0 rfl rfl rfl (Nat.le_of_ble_eq_true rfl) dX6_mark_47 (fun m47 => ?_)
          refine hr_aload_n hC dX6_mark_50 rfl 0 rfl ?_
          refine hr_callVi (As := []) (k := 0) hC rfl (tX6_faulty hI n m47) (cwV 0 hC.1.2.2.2.2 gX6_mark_X6_faulty rfl rfl rfl (by decide +kernel) ⟨Nat.le_of_ble_eq_true rfl, Nat.le_of_ble_eq_true rfl⟩) km0 rfl rfl rfl (Nat.le_of_ble_eq_true rfl) dX6_mark_51 (fun r51 m51 => ?_)
          exact hr_ireti hC hr dX6_mark_54
theorem hmX6_move_7 : Cond.fieldLink RX6 7 "HeatBillsModel" "s" "[I" ∈ wsX6_move := List.mem_of_getElem? (i := 1) rfl
theorem hiX6_move_X6 : ∀ w ∈ wsX60, w ∈ wsX6_move := fun _ h => List.mem_cons_of_mem _ (List.mem_append_right _ h)
def fX6_move (n : Nat) (p1 : Int32) (p2 : Int32) (μ : hb_m) : Option (Int32 × hb_m) :=
bi (fX6_isFlat n p1 μ) (fun r2 m2 =>
if r2 = 0 then
(some ((-1 : Int32), m2))
else
(bi (fX6_in n p2 (1 : Int32) (11 : Int32) m2) (fun r14 m14 =>
if r14 = 0 then
(some ((-2 : Int32), m14))
else
(bi (fX6_ofFlat n p1 (1 : Int32) m14) (fun r26 m26 =>
if r26 ≤ 0 then
(bv (fX6_records n m26) (fun m36 =>
if ib (((7 : Int32) + ((3 : Int32) * p1)) + (1 : Int32)) 415 then
if ib (((7 : Int32) + ((3 : Int32) * p1)) + (2 : Int32)) 415 then
bi (fX6_weightsAhead n p2 (wr (wr m36 1 (((7 : Int32) + ((3 : Int32) * p1)) + (1 : Int32)).toNatClampNeg p2) 1 (((7 : Int32) + ((3 : Int32) * p1)) + (2 : Int32)).toNatClampNeg (-5 : Int32))) (fun r69 m69 =>
some (r69, m69))
else none
else none))
else
(some ((-4 : Int32), m26)))))))
abbrev rmX6_move : Room := { frames := 2, cells := 0, slots := 0, locals := 45 }
set_option maxRecDepth 100000 in
set_option maxHeartbeats 4000000 in
theorem tX6_move {l : Launch} {D : va_G} {ad : Nat → Nat} {dA : Nat → ClassId} (hI : hb_I 12 ad) (n : Nat) (p1 : Int32) (p2 : Int32) (μ : hb_m) : hb_M (hb_Qi vwCl kdM 12 ad D dA) l yX6_move wsX6_move rmX6_move vwCl kdM 12 ad D dA [] [] [.ref (ad 0), .int p1, .int p2] μ (fX6_move n p1 p2 μ) := by
  refine hb_start (cc := cX6_move) (maxL := 3) (ret := (some .int)) (by decide) rfl hI (Nat.le_of_ble_eq_true rfl) [(0, .ref (ad 0)), (1, .int p1), (2, .int p2)] rfl ?_
  intro p e s m args below meth c hC hr
  rw [fX6_move]
  refine hr_aload_n hC dX6_move_0 rfl 0 rfl ?_
  refine hr_iload_n hC dX6_move_1 rfl 1 rfl ?_
  refine hr_callVi (As := [.int p1]) (k := 0) hC rfl (tX6_isFlat hI n p1 μ) (cwV 1 hC.1.2.2.2.2 gX6_move_X6_isFlat rfl rfl rfl (by decide +kernel) ⟨Nat.le_of_ble_eq_true rfl, Nat.le_of_ble_eq_true rfl⟩) km0 rfl rfl rfl (Nat.le_of_ble_eq_true rfl) dX6_move_2 (fun r2 m2 => ?_)
  refine hr_if_ne (tgt := 10) hC dX6_move_5 (by decide) (fun _ => ?_) (fun _ => ?_)
  · refine hr_iconst (v := -1) hC dX6_move_8 (by decide) ?_
    exact hr_ireti hC hr dX6_move_9
  · refine hr_iload_n hC dX6_move_10 rfl 2 rfl ?_
    refine hr_iconst (v := 1) hC dX6_move_11 (by decide) ?_
    refine hr_bipush (v := 11) hC dX6_move_12 (by decide) ?_
    refine hr_callSi (As := [.int p2, .int (1 : Int32), .int (11 : Int32)]) hC rfl (tX6_in hI n p2 (1 : Int32) (11 : Int32) m2) (va_cwS 3 hC.1.2.2.2.2 gX6_move_X6_in rfl rfl rfl (by decide +kernel) ⟨Nat.le_of_ble_eq_true rfl, Nat.le_of_ble_eq_true rfl⟩) rfl (Nat.le_of_ble_eq_true rfl) dX6_move_14 (fun r14 m14 => ?_)
    refine hr_if_ne (tgt := 23) hC dX6_move_17 (by decide) (fun _ => ?_) (fun _ => ?_)
    · refine hr_bipush (v := -2) hC dX6_move_20 (by decide) ?_
      exact hr_ireti hC hr dX6_move_22
    · refine hr_aload_n hC dX6_move_23 rfl 0 rfl ?_
      refine hr_iload_n hC dX6_move_24 rfl 1 rfl ?_
      refine hr_iconst (v := 1) hC dX6_move_25 (by decide) ?_
      refine hr_callVi (As := [.int p1, .int (1 : Int32)]) (k := 0) hC rfl (tX6_ofFlat hI n p1 (1 : Int32) m14) (cwV 2 hC.1.2.2.2.2 gX6_move_X6_ofFlat rfl rfl rfl (by decide +kernel) ⟨Nat.le_of_ble_eq_true rfl, Nat.le_of_ble_eq_true rfl⟩) km0 rfl rfl rfl (Nat.le_of_ble_eq_true rfl) dX6_move_26 (fun r26 m26 => ?_)
      refine hr_if_le (tgt := 35) hC dX6_move_29 (by decide) (fun _ => ?_) (fun _ => ?_)
      · refine hr_aload_n hC dX6_move_35 rfl 0 rfl ?_
        refine hr_callVv (As := []) (k := 0) hC rfl (tX6_records hI n m26) (cwV 0 hC.1.2.2.2.2 gX6_move_X6_records rfl rfl rfl (by decide +kernel) ⟨Nat.le_of_ble_eq_true rfl, Nat.le_of_ble_eq_true rfl⟩) km0 rfl rfl rfl (Nat.le_of_ble_eq_true rfl) dX6_move_36 (fun m36 => ?_)
        refine hr_aload_n hC dX6_move_39 rfl 0 rfl ?_
        refine hr_getR hC hiX6_move_X6 rfl km0 0 (by decide) hmX6_move_7 rfl dX6_move_40 ?_
        refine hr_bipush (v := 7) hC dX6_move_43 (by decide) ?_
        refine hr_iconst (v := 3) hC dX6_move_45 (by decide) ?_
        refine hr_iload_n hC dX6_move_46 rfl 1 rfl ?_
        refine hr_imul hC dX6_move_47 ?_
        refine hr_iadd hC dX6_move_48 ?_
        refine hr_iconst (v := 1) hC dX6_move_49 (by decide) ?_
        refine hr_iadd hC dX6_move_50 ?_
        refine hr_iload_n hC dX6_move_51 rfl 2 rfl ?_
        refine hr_iast hC km1 dX6_move_52 ?_
        refine hr_aload_n hC dX6_move_53 rfl 0 rfl ?_
        refine hr_getR hC hiX6_move_X6 rfl km0 0 (by decide) hmX6_move_7 rfl dX6_move_54 ?_
        refine hr_bipush (v := 7) hC dX6_move_57 (by decide) ?_
        refine hr_iconst (v := 3) hC dX6_move_59 (by decide) ?_
        refine hr_iload_n hC dX6_move_60 rfl 1 rfl ?_
        refine hr_imul hC dX6_move_61 ?_
        refine hr_iadd hC dX6_move_62 ?_
        refine hr_iconst (v := 2) hC dX6_move_63 (by decide) ?_
        refine hr_iadd hC dX6_move_64 ?_
        refine hr_bipush (v := -5) hC dX6_move_65 (by decide) ?_
        refine hr_iast hC km1 dX6_move_67 ?_
        refine hr_iload_n hC dX6_move_68 rfl 2 rfl ?_
        refine hr_callSi (As := [.int p2]) hC rfl (tX6_weightsAhead hI n p2 (wr (wr m36 1 (((7 : Int32) + ((3 : Int32) * p1)) + (1 : Int32)).toNatClampNeg p2) 1 (((7 : Int32) + ((3 : Int32) * p1)) + (2 : Int32)).toNatClampNeg (-5 : Int32))) (va_cwS 1 hC.1.2.2.2.2 gX6_move_X6_weightsAhead rfl rfl rfl (by decide +kernel) ⟨Nat.le_of_ble_eq_true rfl, Nat.le_of_ble_eq_true rfl⟩) rfl (Nat.le_of_ble_eq_true rfl) dX6_move_69 (fun r69 m69 => ?_)
        exact hr_ireti hC hr dX6_move_72
      · refine hr_bipush (v := -4) hC dX6_move_32 (by decide) ?_
        exact hr_ireti hC hr dX6_move_34
theorem hmX6_between_7 : Cond.fieldLink RX6 7 "HeatBillsModel" "s" "[I" ∈ wsX6_between := List.mem_of_getElem? (i := 1) rfl
theorem hiX6_between_X6 : ∀ w ∈ wsX60, w ∈ wsX6_between := fun _ h => List.mem_cons_of_mem _ (List.mem_append_right _ h)
def fX6_between (n : Nat) (p1 : Int32) (p2 : Int32) (μ : hb_m) : Option (Int32 × hb_m) :=
bi (fX6_isFlat n p1 μ) (fun r2 m2 =>
if r2 = 0 then
(some ((-1 : Int32), m2))
else
(bi (fX6_in n p2 (0 : Int32) (1000 : Int32) m2) (fun r15 m15 =>
if r15 = 0 then
(some ((-2 : Int32), m15))
else
(bi (fX6_ofFlat n p1 (1 : Int32) m15) (fun r27 m27 =>
if r27 = 0 then
(some ((-4 : Int32), m27))
else
(bi (fX6_ofFlat n p1 (2 : Int32) m27) (fun r39 m39 =>
if r39 = p2 then
(some ((-5 : Int32), m39))
else
(bv (fX6_records n m39) (fun m52 =>
if ib (((7 : Int32) + ((3 : Int32) * p1)) + (2 : Int32)) 415 then
if r39 = (-5 : Int32) then
(some ((1 : Int32), (wr m52 1 (((7 : Int32) + ((3 : Int32) * p1)) + (2 : Int32)).toNatClampNeg p2)))
else
(some ((0 : Int32), (wr m52 1 (((7 : Int32) + ((3 : Int32) * p1)) + (2 : Int32)).toNatClampNeg p2)))
else none)))))))))
abbrev rmX6_between : Room := { frames := 2, cells := 0, slots := 0, locals := 45 }
set_option maxRecDepth 100000 in
set_option maxHeartbeats 4000000 in
theorem tX6_between {l : Launch} {D : va_G} {ad : Nat → Nat} {dA : Nat → ClassId} (hI : hb_I 12 ad) (n : Nat) (p1 : Int32) (p2 : Int32) (μ : hb_m) : hb_M (hb_Qi vwCl kdM 12 ad D dA) l yX6_between wsX6_between rmX6_between vwCl kdM 12 ad D dA [] [] [.ref (ad 0), .int p1, .int p2] μ (fX6_between n p1 p2 μ) := by
  refine hb_start (cc := cX6_between) (maxL := 4) (ret := (some .int)) (by decide) rfl hI (Nat.le_of_ble_eq_true rfl) [(0, .ref (ad 0)), (1, .int p1), (2, .int p2)] rfl ?_
  intro p e s m args below meth c hC hr
  rw [fX6_between]
  refine hr_aload_n hC dX6_between_0 rfl 0 rfl ?_
  refine hr_iload_n hC dX6_between_1 rfl 1 rfl ?_
  refine hr_callVi (As := [.int p1]) (k := 0) hC rfl (tX6_isFlat hI n p1 μ) (cwV 1 hC.1.2.2.2.2 gX6_between_X6_isFlat rfl rfl rfl (by decide +kernel) ⟨Nat.le_of_ble_eq_true rfl, Nat.le_of_ble_eq_true rfl⟩) km0 rfl rfl rfl (Nat.le_of_ble_eq_true rfl) dX6_between_2 (fun r2 m2 => ?_)
  refine hr_if_ne (tgt := 10) hC dX6_between_5 (by decide) (fun _ => ?_) (fun _ => ?_)
  · refine hr_iconst (v := -1) hC dX6_between_8 (by decide) ?_
    exact hr_ireti hC hr dX6_between_9
  · refine hr_iload_n hC dX6_between_10 rfl 2 rfl ?_
    refine hr_iconst (v := 0) hC dX6_between_11 (by decide) ?_
    refine hr_sipush (v := 1000) hC dX6_between_12 (by decide) ?_
    refine hr_callSi (As := [.int p2, .int (0 : Int32), .int (1000 : Int32)]) hC rfl (tX6_in hI n p2 (0 : Int32) (1000 : Int32) m2) (va_cwS 3 hC.1.2.2.2.2 gX6_between_X6_in rfl rfl rfl (by decide +kernel) ⟨Nat.le_of_ble_eq_true rfl, Nat.le_of_ble_eq_true rfl⟩) rfl (Nat.le_of_ble_eq_true rfl) dX6_between_15 (fun r15 m15 => ?_)
    refine hr_if_ne (tgt := 24) hC dX6_between_18 (by decide) (fun _ => ?_) (fun _ => ?_)
    · refine hr_bipush (v := -2) hC dX6_between_21 (by decide) ?_
      exact hr_ireti hC hr dX6_between_23
    · refine hr_aload_n hC dX6_between_24 rfl 0 rfl ?_
      refine hr_iload_n hC dX6_between_25 rfl 1 rfl ?_
      refine hr_iconst (v := 1) hC dX6_between_26 (by decide) ?_
      refine hr_callVi (As := [.int p1, .int (1 : Int32)]) (k := 0) hC rfl (tX6_ofFlat hI n p1 (1 : Int32) m15) (cwV 2 hC.1.2.2.2.2 gX6_between_X6_ofFlat rfl rfl rfl (by decide +kernel) ⟨Nat.le_of_ble_eq_true rfl, Nat.le_of_ble_eq_true rfl⟩) km0 rfl rfl rfl (Nat.le_of_ble_eq_true rfl) dX6_between_27 (fun r27 m27 => ?_)
      refine hr_if_ne (tgt := 36) hC dX6_between_30 (by decide) (fun _ => ?_) (fun _ => ?_)
      · refine hr_bipush (v := -4) hC dX6_between_33 (by decide) ?_
        exact hr_ireti hC hr dX6_between_35
      · refine hr_aload_n hC dX6_between_36 rfl 0 rfl ?_
        refine hr_iload_n hC dX6_between_37 rfl 1 rfl ?_
        refine hr_iconst (v := 2) hC dX6_between_38 (by decide) ?_
        refine hr_callVi (As := [.int p1, .int (2 : Int32)]) (k := 0) hC rfl (tX6_ofFlat hI n p1 (2 : Int32) m27) (cwV 2 hC.1.2.2.2.2 gX6_between_X6_ofFlat rfl rfl rfl (by decide +kernel) ⟨Nat.le_of_ble_eq_true rfl, Nat.le_of_ble_eq_true rfl⟩) km0 rfl rfl rfl (Nat.le_of_ble_eq_true rfl) dX6_between_39 (fun r39 m39 => ?_)
        refine hr_istore_n (lv' := [(3, .int r39), (0, .ref (ad 0)), (1, .int p1), (2, .int p2)]) hC dX6_between_42 rfl (by decide) rfl ?_
        refine hr_iload_n hC dX6_between_43 rfl 0 rfl ?_
        refine hr_iload_n hC dX6_between_44 rfl 3 rfl ?_
        refine hr_icmp_ne (tgt := 51) hC dX6_between_45 (by decide) (fun _ => ?_) (fun _ => ?_)
        · refine hr_bipush (v := -5) hC dX6_between_48 (by decide) ?_
          exact hr_ireti hC hr dX6_between_50
        · refine hr_aload_n hC dX6_between_51 rfl 1 rfl ?_
          refine hr_callVv (As := []) (k := 0) hC rfl (tX6_records hI n m39) (cwV 0 hC.1.2.2.2.2 gX6_between_X6_records rfl rfl rfl (by decide +kernel) ⟨Nat.le_of_ble_eq_true rfl, Nat.le_of_ble_eq_true rfl⟩) km0 rfl rfl rfl (Nat.le_of_ble_eq_true rfl) dX6_between_52 (fun m52 => ?_)
          refine hr_aload_n hC dX6_between_55 rfl 1 rfl ?_
          refine hr_getR hC hiX6_between_X6 rfl km0 0 (by decide) hmX6_between_7 rfl dX6_between_56 ?_
          refine hr_bipush (v := 7) hC dX6_between_59 (by decide) ?_
          refine hr_iconst (v := 3) hC dX6_between_61 (by decide) ?_
          refine hr_iload_n hC dX6_between_62 rfl 2 rfl ?_
          refine hr_imul hC dX6_between_63 ?_
          refine hr_iadd hC dX6_between_64 ?_
          refine hr_iconst (v := 2) hC dX6_between_65 (by decide) ?_
          refine hr_iadd hC dX6_between_66 ?_
          refine hr_iload_n hC dX6_between_67 rfl 3 rfl ?_
          refine hr_iast hC km1 dX6_between_68 ?_
          refine hr_iload_n hC dX6_between_69 rfl 0 rfl ?_
          refine hr_bipush (v := -5) hC dX6_between_70 (by decide) ?_
          refine hr_icmp_ne (tgt := 79) hC dX6_between_72 (by decide) (fun _ => ?_) (fun _ => ?_)
          · refine hr_iconst (v := 1) hC dX6_between_75 (by decide) ?_
            refine hr_goto (tgt := 80) hC dX6_between_76 (by decide) ?_
            exact hr_ireti hC hr dX6_between_80
          · refine hr_iconst (v := 0) hC dX6_between_79 (by decide) ?_
            exact hr_ireti hC hr dX6_between_80

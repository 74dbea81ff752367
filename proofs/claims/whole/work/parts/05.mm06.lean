theorem hmX6_draft_7 : Cond.fieldLink RX6 7 "HeatBillsModel" "s" "[I" ∈ wsX6_draft := List.mem_of_getElem? (i := 1) rfl
theorem hiX6_draft_X6 : ∀ w ∈ wsX60, w ∈ wsX6_draft := fun _ h => List.mem_cons_of_mem _ (List.mem_append_right _ h)
def fX6_draft (n : Nat) (p1 : Int32) (p2 : Int32) (μ : hb_m) : Option (Int32 × hb_m) :=
bi (fX6_isFlat n p1 μ) (fun r2 m2 =>
if r2 = 0 then
(some ((-1 : Int32), m2))
else
(if p2 = 0 then
(if ib (4 : Int32) 415 then
bv (fX6_laysOpen n (rd m2 1 (4 : Int32).toNatClampNeg) m2) (fun m30 =>
bi (fX6_ofFlat n p1 (1 : Int32) m30) (fun r39 m39 =>
bi (fX6_ofFlat n p1 (2 : Int32) m39) (fun r45 m45 =>
bi (fX6_tenantOf n p1 p2 r39 r45 m45) (fun r48 m48 =>
some (r48, m48)))))
else none)
else
(bi (fX6_ofFlat n p1 (1 : Int32) m2) (fun r15 m15 =>
if r15 = 0 then
(some ((-1 : Int32), m15))
else
(if ib (4 : Int32) 415 then
bv (fX6_laysOpen n (rd m15 1 (4 : Int32).toNatClampNeg) m15) (fun m30 =>
bi (fX6_ofFlat n p1 (1 : Int32) m30) (fun r39 m39 =>
bi (fX6_ofFlat n p1 (2 : Int32) m39) (fun r45 m45 =>
bi (fX6_tenantOf n p1 p2 r39 r45 m45) (fun r48 m48 =>
some (r48, m48)))))
else none)))))
abbrev rmX6_draft : Room := { frames := 6, cells := 0, slots := 0, locals := 133 }
set_option maxRecDepth 100000 in
set_option maxHeartbeats 4000000 in
theorem tX6_draft {l : Launch} {D : va_G} {ad : Nat → Nat} {dA : Nat → ClassId} (hI : hb_I 12 ad) (n : Nat) (p1 : Int32) (p2 : Int32) (μ : hb_m) : hb_M (hb_Qi vwCl kdM 12 ad D dA) l yX6_draft wsX6_draft rmX6_draft vwCl kdM 12 ad D dA [] [] [.ref (ad 0), .int p1, .int p2] μ (fX6_draft n p1 p2 μ) := by
  refine hb_start (cc := cX6_draft) (maxL := 3) (ret := (some .int)) (by decide) rfl hI (Nat.le_of_ble_eq_true rfl) [(0, .ref (ad 0)), (1, .int p1), (2, .int p2)] rfl ?_
  intro p e s m args below meth c hC hr
  rw [fX6_draft]
  refine hr_aload_n hC dX6_draft_0 rfl 0 rfl ?_
  refine hr_iload_n hC dX6_draft_1 rfl 1 rfl ?_
  refine hr_callVi (As := [.int p1]) (k := 0) hC rfl (tX6_isFlat hI n p1 μ) (cwV 1 hC.1.2.2.2.2 gX6_draft_X6_isFlat rfl rfl rfl (by decide +kernel) ⟨Nat.le_of_ble_eq_true rfl, Nat.le_of_ble_eq_true rfl⟩) km0 rfl rfl rfl (Nat.le_of_ble_eq_true rfl) dX6_draft_2 (fun r2 m2 => ?_)
  refine hr_if_eq (tgt := 21) hC dX6_draft_5 (by decide) (fun _ => ?_) (fun _ => ?_)
  · refine hr_iconst (v := -1) hC dX6_draft_21 (by decide) ?_
    exact hr_ireti hC hr dX6_draft_22
  · refine hr_iload_n hC dX6_draft_8 rfl 2 rfl ?_
    refine hr_if_eq (tgt := 23) hC dX6_draft_9 (by decide) (fun _ => ?_) (fun _ => ?_)
    · refine hr_aload_n hC dX6_draft_23 rfl 0 rfl ?_
      refine hr_aload_n hC dX6_draft_24 rfl 0 rfl ?_
      refine hr_getR hC hiX6_draft_X6 rfl km0 0 (by decide) hmX6_draft_7 rfl dX6_draft_25 ?_
      refine hr_iconst (v := 4) hC dX6_draft_28 (by decide) ?_
      refine hr_iald hC km1 dX6_draft_29 ?_
      refine hr_callVv (As := [.int (rd m2 1 (4 : Int32).toNatClampNeg)]) (k := 0) hC rfl (tX6_laysOpen hI n (rd m2 1 (4 : Int32).toNatClampNeg) m2) (cwV 1 hC.1.2.2.2.2 gX6_draft_X6_laysOpen rfl rfl rfl (by decide +kernel) ⟨Nat.le_of_ble_eq_true rfl, Nat.le_of_ble_eq_true rfl⟩) km0 rfl rfl rfl (Nat.le_of_ble_eq_true rfl) dX6_draft_30 (fun m30 => ?_)
      refine hr_aload_n hC dX6_draft_33 rfl 0 rfl ?_
      refine hr_iload_n hC dX6_draft_34 rfl 1 rfl ?_
      refine hr_iload_n hC dX6_draft_35 rfl 2 rfl ?_
      refine hr_aload_n hC dX6_draft_36 rfl 0 rfl ?_
      refine hr_iload_n hC dX6_draft_37 rfl 1 rfl ?_
      refine hr_iconst (v := 1) hC dX6_draft_38 (by decide) ?_
      refine hr_callVi (As := [.int p1, .int (1 : Int32)]) (k := 0) hC rfl (tX6_ofFlat hI n p1 (1 : Int32) m30) (cwV 2 hC.1.2.2.2.2 gX6_draft_X6_ofFlat rfl rfl rfl (by decide +kernel) ⟨Nat.le_of_ble_eq_true rfl, Nat.le_of_ble_eq_true rfl⟩) km0 rfl rfl rfl (Nat.le_of_ble_eq_true rfl) dX6_draft_39 (fun r39 m39 => ?_)
      refine hr_aload_n hC dX6_draft_42 rfl 0 rfl ?_
      refine hr_iload_n hC dX6_draft_43 rfl 1 rfl ?_
      refine hr_iconst (v := 2) hC dX6_draft_44 (by decide) ?_
      refine hr_callVi (As := [.int p1, .int (2 : Int32)]) (k := 0) hC rfl (tX6_ofFlat hI n p1 (2 : Int32) m39) (cwV 2 hC.1.2.2.2.2 gX6_draft_X6_ofFlat rfl rfl rfl (by decide +kernel) ⟨Nat.le_of_ble_eq_true rfl, Nat.le_of_ble_eq_true rfl⟩) km0 rfl rfl rfl (Nat.le_of_ble_eq_true rfl) dX6_draft_45 (fun r45 m45 => ?_)
      refine hr_callVi (As := [.int p1, .int p2, .int r39, .int r45]) (k := 0) hC rfl (tX6_tenantOf hI n p1 p2 r39 r45 m45) (cwV 4 hC.1.2.2.2.2 gX6_draft_X6_tenantOf rfl rfl rfl (by decide +kernel) ⟨Nat.le_of_ble_eq_true rfl, Nat.le_of_ble_eq_true rfl⟩) km0 rfl rfl rfl (Nat.le_of_ble_eq_true rfl) dX6_draft_48 (fun r48 m48 => ?_)
      exact hr_ireti hC hr dX6_draft_51
    · refine hr_aload_n hC dX6_draft_12 rfl 0 rfl ?_
      refine hr_iload_n hC dX6_draft_13 rfl 1 rfl ?_
      refine hr_iconst (v := 1) hC dX6_draft_14 (by decide) ?_
      refine hr_callVi (As := [.int p1, .int (1 : Int32)]) (k := 0) hC rfl (tX6_ofFlat hI n p1 (1 : Int32) m2) (cwV 2 hC.1.2.2.2.2 gX6_draft_X6_ofFlat rfl rfl rfl (by decide +kernel) ⟨Nat.le_of_ble_eq_true rfl, Nat.le_of_ble_eq_true rfl⟩) km0 rfl rfl rfl (Nat.le_of_ble_eq_true rfl) dX6_draft_15 (fun r15 m15 => ?_)
      refine hr_if_ne (tgt := 23) hC dX6_draft_18 (by decide) (fun _ => ?_) (fun _ => ?_)
      · refine hr_iconst (v := -1) hC dX6_draft_21 (by decide) ?_
        exact hr_ireti hC hr dX6_draft_22
      · refine hr_aload_n hC dX6_draft_23 rfl 0 rfl ?_
        refine hr_aload_n hC dX6_draft_24 rfl 0 rfl ?_
        refine hr_getR hC hiX6_draft_X6 rfl km0 0 (by decide) hmX6_draft_7 rfl dX6_draft_25 ?_
        refine hr_iconst (v := 4) hC dX6_draft_28 (by decide) ?_
        refine hr_iald hC km1 dX6_draft_29 ?_
        refine hr_callVv (As := [.int (rd m15 1 (4 : Int32).toNatClampNeg)]) (k := 0) hC rfl (tX6_laysOpen hI n (rd m15 1 (4 : Int32).toNatClampNeg) m15) (cwV 1 hC.1.2.2.2.2 gX6_draft_X6_laysOpen rfl rfl rfl (by decide +kernel) ⟨Nat.le_of_ble_eq_true rfl, Nat.le_of_ble_eq_true rfl⟩) km0 rfl rfl rfl (Nat.le_of_ble_eq_true rfl) dX6_draft_30 (fun m30 => ?_)
        refine hr_aload_n hC dX6_draft_33 rfl 0 rfl ?_
        refine hr_iload_n hC dX6_draft_34 rfl 1 rfl ?_
        refine hr_iload_n hC dX6_draft_35 rfl 2 rfl ?_
        refine hr_aload_n hC dX6_draft_36 rfl 0 rfl ?_
        refine hr_iload_n hC dX6_draft_37 rfl 1 rfl ?_
        refine hr_iconst (v := 1) hC dX6_draft_38 (by decide) ?_
        refine hr_callVi (As := [.int p1, .int (1 : Int32)]) (k := 0) hC rfl (tX6_ofFlat hI n p1 (1 : Int32) m30) (cwV 2 hC.1.2.2.2.2 gX6_draft_X6_ofFlat rfl rfl rfl (by decide +kernel) ⟨Nat.le_of_ble_eq_true rfl, Nat.le_of_ble_eq_true rfl⟩) km0 rfl rfl rfl (Nat.le_of_ble_eq_true rfl) dX6_draft_39 (fun r39 m39 => ?_)
        refine hr_aload_n hC dX6_draft_42 rfl 0 rfl ?_
        refine hr_iload_n hC dX6_draft_43 rfl 1 rfl ?_
        refine hr_iconst (v := 2) hC dX6_draft_44 (by decide) ?_
        refine hr_callVi (As := [.int p1, .int (2 : Int32)]) (k := 0) hC rfl (tX6_ofFlat hI n p1 (2 : Int32) m39) (cwV 2 hC.1.2.2.2.2 gX6_draft_X6_ofFlat rfl rfl rfl (by decide +kernel) ⟨Nat.le_of_ble_eq_true rfl, Nat.le_of_ble_eq_true rfl⟩) km0 rfl rfl rfl (Nat.le_of_ble_eq_true rfl) dX6_draft_45 (fun r45 m45 => ?_)
        refine hr_callVi (As := [.int p1, .int p2, .int r39, .int r45]) (k := 0) hC rfl (tX6_tenantOf hI n p1 p2 r39 r45 m45) (cwV 4 hC.1.2.2.2.2 gX6_draft_X6_tenantOf rfl rfl rfl (by decide +kernel) ⟨Nat.le_of_ble_eq_true rfl, Nat.le_of_ble_eq_true rfl⟩) km0 rfl rfl rfl (Nat.le_of_ble_eq_true rfl) dX6_draft_48 (fun r48 m48 => ?_)
        exact hr_ireti hC hr dX6_draft_51
theorem hmX6_bill_7 : Cond.fieldLink RX6 7 "HeatBillsModel" "s" "[I" ∈ wsX6_bill := List.mem_of_getElem? (i := 1) rfl
theorem hmX6_bill_176 : Cond.constant RX6 176 (1000000) ∈ wsX6_bill := List.mem_of_getElem? (i := 2) rfl
theorem hiX6_bill_X6 : ∀ w ∈ wsX60, w ∈ wsX6_bill := fun _ h => List.mem_cons_of_mem _ (List.mem_append_right _ h)
def fX6_bill (n : Nat) (p1 : Int32) (p2 : Int32) (p3 : Int32) (p4 : Int32) (μ : hb_m) : Option (Int32 × hb_m) :=
bi (fX6_isClosed n p1 μ) (fun r2 m2 =>
if r2 = 0 then
(some ((-1 : Int32), m2))
else
(bi (fX6_isFlat n p2 m2) (fun r10 m10 =>
if r10 = 0 then
(some ((-1 : Int32), m10))
else
(if p3 = 0 then
(if p3 = 0 then
(if p4 = 0 then
(bi (fX6_old n p1 ((39 : Int32) + (((2 : Int32) * p2) + (0 : Int32))) m10) (fun r90 m90 =>
if ib r90 415 then
some ((rd m90 1 r90.toNatClampNeg), m90)
else none))
else
(bi (fX6_old n p1 ((55 : Int32) + (((2 : Int32) * p2) + (0 : Int32))) m10) (fun r72 m72 =>
if ib r72 415 then
some (((1000000 : Int32) + (rd m72 1 r72.toNatClampNeg)), m72)
else none)))
else
(if p4 = 0 then
(bi (fX6_old n p1 ((39 : Int32) + (((2 : Int32) * p2) + (1 : Int32))) m10) (fun r90 m90 =>
if ib r90 415 then
some ((rd m90 1 r90.toNatClampNeg), m90)
else none))
else
(bi (fX6_old n p1 ((55 : Int32) + (((2 : Int32) * p2) + (1 : Int32))) m10) (fun r72 m72 =>
if ib r72 415 then
some (((1000000 : Int32) + (rd m72 1 r72.toNatClampNeg)), m72)
else none))))
else
(bi (fX6_old n p1 ((23 : Int32) + ((2 : Int32) * p2)) m10) (fun r31 m31 =>
if ib r31 415 then
if (rd m31 1 r31.toNatClampNeg) = 0 then
(some ((-1 : Int32), m31))
else
(if p3 = 0 then
(if p4 = 0 then
(bi (fX6_old n p1 ((39 : Int32) + (((2 : Int32) * p2) + (0 : Int32))) m31) (fun r90 m90 =>
if ib r90 415 then
some ((rd m90 1 r90.toNatClampNeg), m90)
else none))
else
(bi (fX6_old n p1 ((55 : Int32) + (((2 : Int32) * p2) + (0 : Int32))) m31) (fun r72 m72 =>
if ib r72 415 then
some (((1000000 : Int32) + (rd m72 1 r72.toNatClampNeg)), m72)
else none)))
else
(if p4 = 0 then
(bi (fX6_old n p1 ((39 : Int32) + (((2 : Int32) * p2) + (1 : Int32))) m31) (fun r90 m90 =>
if ib r90 415 then
some ((rd m90 1 r90.toNatClampNeg), m90)
else none))
else
(bi (fX6_old n p1 ((55 : Int32) + (((2 : Int32) * p2) + (1 : Int32))) m31) (fun r72 m72 =>
if ib r72 415 then
some (((1000000 : Int32) + (rd m72 1 r72.toNatClampNeg)), m72)
else none))))
else none))))))
abbrev rmX6_bill : Room := { frames := 2, cells := 0, slots := 0, locals := 43 }
set_option maxRecDepth 100000 in
set_option maxHeartbeats 4000000 in
theorem tX6_bill {l : Launch} {D : va_G} {ad : Nat → Nat} {dA : Nat → ClassId} (hI : hb_I 12 ad) (n : Nat) (p1 : Int32) (p2 : Int32) (p3 : Int32) (p4 : Int32) (μ : hb_m) : hb_M (hb_Qi vwCl kdM 12 ad D dA) l yX6_bill wsX6_bill rmX6_bill vwCl kdM 12 ad D dA [] [] [.ref (ad 0), .int p1, .int p2, .int p3, .int p4] μ (fX6_bill n p1 p2 p3 p4 μ) := by
  refine hb_start (cc := cX6_bill) (maxL := 6) (ret := (some .int)) (by decide) rfl hI (Nat.le_of_ble_eq_true rfl) [(0, .ref (ad 0)), (1, .int p1), (2, .int p2), (3, .int p3), (4, .int p4)] rfl ?_
  intro p e s m args below meth c hC hr
  rw [fX6_bill]
  refine hr_aload_n hC dX6_bill_0 rfl 0 rfl ?_
  refine hr_iload_n hC dX6_bill_1 rfl 1 rfl ?_
  refine hr_callVi (As := [.int p1]) (k := 0) hC rfl (tX6_isClosed hI n p1 μ) (cwV 1 hC.1.2.2.2.2 gX6_bill_X6_isClosed rfl rfl rfl (by decide +kernel) ⟨Nat.le_of_ble_eq_true rfl, Nat.le_of_ble_eq_true rfl⟩) km0 rfl rfl rfl (Nat.le_of_ble_eq_true rfl) dX6_bill_2 (fun r2 m2 => ?_)
  refine hr_if_eq (tgt := 38) hC dX6_bill_5 (by decide) (fun _ => ?_) (fun _ => ?_)
  · refine hr_iconst (v := -1) hC dX6_bill_38 (by decide) ?_
    exact hr_ireti hC hr dX6_bill_39
  · refine hr_aload_n hC dX6_bill_8 rfl 0 rfl ?_
    refine hr_iload_n hC dX6_bill_9 rfl 2 rfl ?_
    refine hr_callVi (As := [.int p2]) (k := 0) hC rfl (tX6_isFlat hI n p2 m2) (cwV 1 hC.1.2.2.2.2 gX6_bill_X6_isFlat rfl rfl rfl (by decide +kernel) ⟨Nat.le_of_ble_eq_true rfl, Nat.le_of_ble_eq_true rfl⟩) km0 rfl rfl rfl (Nat.le_of_ble_eq_true rfl) dX6_bill_10 (fun r10 m10 => ?_)
    refine hr_if_eq (tgt := 38) hC dX6_bill_13 (by decide) (fun _ => ?_) (fun _ => ?_)
    · refine hr_iconst (v := -1) hC dX6_bill_38 (by decide) ?_
      exact hr_ireti hC hr dX6_bill_39
    · refine hr_iload_n hC dX6_bill_16 rfl 3 rfl ?_
      refine hr_if_eq (tgt := 40) hC dX6_bill_17 (by decide) (fun _ => ?_) (fun _ => ?_)
      · refine hr_iconst (v := 2) hC dX6_bill_40 (by decide) ?_
        refine hr_iload_n hC dX6_bill_41 rfl 2 rfl ?_
        refine hr_imul hC dX6_bill_42 ?_
        refine hr_iload_n hC dX6_bill_43 rfl 3 rfl ?_
        refine hr_if_eq (tgt := 51) hC dX6_bill_44 (by decide) (fun _ => ?_) (fun _ => ?_)
        · refine hr_iconst (v := 0) hC dX6_bill_51 (by decide) ?_
          refine hr_iadd hC dX6_bill_52 ?_
          refine hr_istore (lv' := [(5, .int (((2 : Int32) * p2) + (0 : Int32))), (0, .ref (ad 0)), (1, .int p1), (2, .int p2), (3, .int p3), (4, .int p4)]) hC dX6_bill_53 (by decide) rfl ?_
          refine hr_iload hC dX6_bill_55 5 rfl ?_
          refine hr_if_eq (tgt := 80) hC dX6_bill_57 (by decide) (fun _ => ?_) (fun _ => ?_)
          · refine hr_aload_n hC dX6_bill_80 rfl 1 rfl ?_
            refine hr_getR hC hiX6_bill_X6 rfl km0 0 (by decide) hmX6_bill_7 rfl dX6_bill_81 ?_
            refine hr_iload_n hC dX6_bill_84 rfl 2 rfl ?_
            refine hr_bipush (v := 39) hC dX6_bill_85 (by decide) ?_
            refine hr_iload hC dX6_bill_87 0 rfl ?_
            refine hr_iadd hC dX6_bill_89 ?_
            refine hr_callSi (As := [.int p1, .int ((39 : Int32) + (((2 : Int32) * p2) + (0 : Int32)))]) hC rfl (tX6_old hI n p1 ((39 : Int32) + (((2 : Int32) * p2) + (0 : Int32))) m10) (va_cwS 2 hC.1.2.2.2.2 gX6_bill_X6_old rfl rfl rfl (by decide +kernel) ⟨Nat.le_of_ble_eq_true rfl, Nat.le_of_ble_eq_true rfl⟩) rfl (Nat.le_of_ble_eq_true rfl) dX6_bill_90 (fun r90 m90 => ?_)
            refine hr_iald hC km1 dX6_bill_93 ?_
            exact hr_ireti hC hr dX6_bill_94
          · refine hr_ldc (v := 1000000) hC dX6_bill_60 hmX6_bill_176 ?_
            refine hr_aload_n hC dX6_bill_62 rfl 1 rfl ?_
            refine hr_getR hC hiX6_bill_X6 rfl km0 0 (by decide) hmX6_bill_7 rfl dX6_bill_63 ?_
            refine hr_iload_n hC dX6_bill_66 rfl 2 rfl ?_
            refine hr_bipush (v := 55) hC dX6_bill_67 (by decide) ?_
            refine hr_iload hC dX6_bill_69 0 rfl ?_
            refine hr_iadd hC dX6_bill_71 ?_
            refine hr_callSi (As := [.int p1, .int ((55 : Int32) + (((2 : Int32) * p2) + (0 : Int32)))]) hC rfl (tX6_old hI n p1 ((55 : Int32) + (((2 : Int32) * p2) + (0 : Int32))) m10) (va_cwS 2 hC.1.2.2.2.2 gX6_bill_X6_old rfl rfl rfl (by decide +kernel) ⟨Nat.le_of_ble_eq_true rfl, Nat.le_of_ble_eq_true rfl⟩) rfl (Nat.le_of_ble_eq_true rfl) dX6_bill_72 (fun r72 m72 => ?_)
            refine hr_iald hC km1 dX6_bill_75 ?_
            refine hr_iadd hC dX6_bill_76 ?_
            refine hr_goto (tgt := 94) hC dX6_bill_77 (by decide) ?_
            exact hr_ireti hC hr dX6_bill_94
        · refine hr_iconst (v := 1) hC dX6_bill_47 (by decide) ?_
          refine hr_goto (tgt := 52) hC dX6_bill_48 (by decide) ?_
          refine hr_iadd hC dX6_bill_52 ?_
          refine hr_istore (lv' := [(5, .int (((2 : Int32) * p2) + (1 : Int32))), (0, .ref (ad 0)), (1, .int p1), (2, .int p2), (3, .int p3), (4, .int p4)]) hC dX6_bill_53 (by decide) rfl ?_
          refine hr_iload hC dX6_bill_55 5 rfl ?_
          refine hr_if_eq (tgt := 80) hC dX6_bill_57 (by decide) (fun _ => ?_) (fun _ => ?_)
          · refine hr_aload_n hC dX6_bill_80 rfl 1 rfl ?_
            refine hr_getR hC hiX6_bill_X6 rfl km0 0 (by decide) hmX6_bill_7 rfl dX6_bill_81 ?_
            refine hr_iload_n hC dX6_bill_84 rfl 2 rfl ?_
            refine hr_bipush (v := 39) hC dX6_bill_85 (by decide) ?_
            refine hr_iload hC dX6_bill_87 0 rfl ?_
            refine hr_iadd hC dX6_bill_89 ?_
            refine hr_callSi (As := [.int p1, .int ((39 : Int32) + (((2 : Int32) * p2) + (1 : Int32)))]) hC rfl (tX6_old hI n p1 ((39 : Int32) + (((2 : Int32) * p2) + (1 : Int32))) m10) (va_cwS 2 hC.1.2.2.2.2 gX6_bill_X6_old rfl rfl rfl (by decide +kernel) ⟨Nat.le_of_ble_eq_true rfl, Nat.le_of_ble_eq_true rfl⟩) rfl (Nat.le_of_ble_eq_true rfl) dX6_bill_90 (fun r90 m90 => ?_)
            refine hr_iald hC km1 dX6_bill_93 ?_
            exact hr_ireti hC hr dX6_bill_94
          · refine hr_ldc (v := 1000000) hC dX6_bill_60 hmX6_bill_176 ?_
            refine hr_aload_n hC dX6_bill_62 rfl 1 rfl ?_
            refine hr_getR hC hiX6_bill_X6 rfl km0 0 (by decide) hmX6_bill_7 rfl dX6_bill_63 ?_
            refine hr_iload_n hC dX6_bill_66 rfl 2 rfl ?_
            refine hr_bipush (v := 55) hC dX6_bill_67 (by decide) ?_
            refine hr_iload hC dX6_bill_69 0 rfl ?_
            refine hr_iadd hC dX6_bill_71 ?_
            refine hr_callSi (As := [.int p1, .int ((55 : Int32) + (((2 : Int32) * p2) + (1 : Int32)))]) hC rfl (tX6_old hI n p1 ((55 : Int32) + (((2 : Int32) * p2) + (1 : Int32))) m10) (va_cwS 2 hC.1.2.2.2.2 gX6_bill_X6_old rfl rfl rfl (by decide +kernel) ⟨Nat.le_of_ble_eq_true rfl, Nat.le_of_ble_eq_true rfl⟩) rfl (Nat.le_of_ble_eq_true rfl) dX6_bill_72 (fun r72 m72 => ?_)
            refine hr_iald hC km1 dX6_bill_75 ?_
            refine hr_iadd hC dX6_bill_76 ?_
            refine hr_goto (tgt := 94) hC dX6_bill_77 (by decide) ?_
            exact hr_ireti hC hr dX6_bill_94
      · refine hr_aload_n hC dX6_bill_20 rfl 0 rfl ?_
        refine hr_getR hC hiX6_bill_X6 rfl km0 0 (by decide) hmX6_bill_7 rfl dX6_bill_21 ?_
        refine hr_iload_n hC dX6_bill_24 rfl 1 rfl ?_
        refine hr_bipush (v := 23) hC dX6_bill_25 (by decide) ?_
        refine hr_iconst (v := 2) hC dX6_bill_27 (by decide) ?_
        refine hr_iload_n hC dX6_bill_28 rfl 2 rfl ?_
        refine hr_imul hC dX6_bill_29 ?_
        refine hr_iadd hC dX6_bill_30 ?_
        refine hr_callSi (As := [.int p1, .int ((23 : Int32) + ((2 : Int32) * p2))]) hC rfl (tX6_old hI n p1 ((23 : Int32) + ((2 : Int32) * p2)) m10) (va_cwS 2 hC.1.2.2.2.2 gX6_bill_X6_old rfl rfl rfl (by decide +kernel) ⟨Nat.le_of_ble_eq_true rfl, Nat.le_of_ble_eq_true rfl⟩) rfl (Nat.le_of_ble_eq_true rfl) dX6_bill_31 (fun r31 m31 => ?_)
        refine hr_iald hC km1 dX6_bill_34 ?_
        refine hr_if_ne (tgt := 40) hC dX6_bill_35 (by decide) (fun _ => ?_) (fun _ => ?_)
        · refine hr_iconst (v := -1) hC dX6_bill_38 (by decide) ?_
          exact hr_ireti hC hr dX6_bill_39
        · refine hr_iconst (v := 2) hC dX6_bill_40 (by decide) ?_
          refine hr_iload_n hC dX6_bill_41 rfl 2 rfl ?_
          refine hr_imul hC dX6_bill_42 ?_
          refine hr_iload_n hC dX6_bill_43 rfl 3 rfl ?_
          refine hr_if_eq (tgt := 51) hC dX6_bill_44 (by decide) (fun _ => ?_) (fun _ => ?_)
          · refine hr_iconst (v := 0) hC dX6_bill_51 (by decide) ?_
            refine hr_iadd hC dX6_bill_52 ?_
            refine hr_istore (lv' := [(5, .int (((2 : Int32) * p2) + (0 : Int32))), (0, .ref (ad 0)), (1, .int p1), (2, .int p2), (3, .int p3), (4, .int p4)]) hC dX6_bill_53 (by decide) rfl ?_
            refine hr_iload hC dX6_bill_55 5 rfl ?_
            refine hr_if_eq (tgt := 80) hC dX6_bill_57 (by decide) (fun _ => ?_) (fun _ => ?_)
            · refine hr_aload_n hC dX6_bill_80 rfl 1 rfl ?_
              refine hr_getR hC hiX6_bill_X6 rfl km0 0 (by decide) hmX6_bill_7 rfl dX6_bill_81 ?_
              refine hr_iload_n hC dX6_bill_84 rfl 2 rfl ?_
              refine hr_bipush (v := 39) hC dX6_bill_85 (by decide) ?_
              refine hr_iload hC dX6_bill_87 0 rfl ?_
              refine hr_iadd hC dX6_bill_89 ?_
              refine hr_callSi (As := [.int p1, .int ((39 : Int32) + (((2 : Int32) * p2) + (0 : Int32)))]) hC rfl (tX6_old hI n p1 ((39 : Int32) + (((2 : Int32) * p2) + (0 : Int32))) m31) (va_cwS 2 hC.1.2.2.2.2 gX6_bill_X6_old rfl rfl rfl (by decide +kernel) ⟨Nat.le_of_ble_eq_true rfl, Nat.le_of_ble_eq_true rfl⟩) rfl (Nat.le_of_ble_eq_true rfl) dX6_bill_90 (fun r90 m90 => ?_)
              refine hr_iald hC km1 dX6_bill_93 ?_
              exact hr_ireti hC hr dX6_bill_94
            · refine hr_ldc (v := 1000000) hC dX6_bill_60 hmX6_bill_176 ?_
              refine hr_aload_n hC dX6_bill_62 rfl 1 rfl ?_
              refine hr_getR hC hiX6_bill_X6 rfl km0 0 (by decide) hmX6_bill_7 rfl dX6_bill_63 ?_
              refine hr_iload_n hC dX6_bill_66 rfl 2 rfl ?_
              refine hr_bipush (v := 55) hC dX6_bill_67 (by decide) ?_
              refine hr_iload hC dX6_bill_69 0 rfl ?_
              refine hr_iadd hC dX6_bill_71 ?_
              refine hr_callSi (As := [.int p1, .int ((55 : Int32) + (((2 : Int32) * p2) + (0 : Int32)))]) hC rfl (tX6_old hI n p1 ((55 : Int32) + (((2 : Int32) * p2) + (0 : Int32))) m31) (va_cwS 2 hC.1.2.2.2.2 gX6_bill_X6_old rfl rfl rfl (by decide +kernel) ⟨Nat.le_of_ble_eq_true rfl, Nat.le_of_ble_eq_true rfl⟩) rfl (Nat.le_of_ble_eq_true rfl) dX6_bill_72 (fun r72 m72 => ?_)
              refine hr_iald hC km1 dX6_bill_75 ?_
              refine hr_iadd hC dX6_bill_76 ?_
              refine hr_goto (tgt := 94) hC dX6_bill_77 (by decide) ?_
              exact hr_ireti hC hr dX6_bill_94
          · refine hr_iconst (v := 1) hC dX6_bill_47 (by decide) ?_
            refine hr_goto (tgt := 52) hC dX6_bill_48 (by decide) ?_
            refine hr_iadd hC dX6_bill_52 ?_
            refine hr_istore (lv' := [(5, .int (((2 : Int32) * p2) + (1 : Int32))), (0, .ref (ad 0)), (1, .int p1), (2, .int p2), (3, .int p3), (4, .int p4)]) hC dX6_bill_53 (by decide) rfl ?_
            refine hr_iload hC dX6_bill_55 5 rfl ?_
            refine hr_if_eq (tgt := 80) hC dX6_bill_57 (by decide) (fun _ => ?_) (fun _ => ?_)
            · refine hr_aload_n hC dX6_bill_80 rfl 1 rfl ?_
              refine hr_getR hC hiX6_bill_X6 rfl km0 0 (by decide) hmX6_bill_7 rfl dX6_bill_81 ?_
              refine hr_iload_n hC dX6_bill_84 rfl 2 rfl ?_
              refine hr_bipush (v := 39) hC dX6_bill_85 (by decide) ?_
              refine hr_iload hC dX6_bill_87 0 rfl ?_
              refine hr_iadd hC dX6_bill_89 ?_
              refine hr_callSi (As := [.int p1, .int ((39 : Int32) + (((2 : Int32) * p2) + (1 : Int32)))]) hC rfl (tX6_old hI n p1 ((39 : Int32) + (((2 : Int32) * p2) + (1 : Int32))) m31) (va_cwS 2 hC.1.2.2.2.2 gX6_bill_X6_old rfl rfl rfl (by decide +kernel) ⟨Nat.le_of_ble_eq_true rfl, Nat.le_of_ble_eq_true rfl⟩) rfl (Nat.le_of_ble_eq_true rfl) dX6_bill_90 (fun r90 m90 => ?_)
              refine hr_iald hC km1 dX6_bill_93 ?_
              exact hr_ireti hC hr dX6_bill_94
            · refine hr_ldc (v := 1000000) hC dX6_bill_60 hmX6_bill_176 ?_
              refine hr_aload_n hC dX6_bill_62 rfl 1 rfl ?_
              refine hr_getR hC hiX6_bill_X6 rfl km0 0 (by decide) hmX6_bill_7 rfl dX6_bill_63 ?_
              refine hr_iload_n hC dX6_bill_66 rfl 2 rfl ?_
              refine hr_bipush (v := 55) hC dX6_bill_67 (by decide) ?_
              refine hr_iload hC dX6_bill_69 0 rfl ?_
              refine hr_iadd hC dX6_bill_71 ?_
              refine hr_callSi (As := [.int p1, .int ((55 : Int32) + (((2 : Int32) * p2) + (1 : Int32)))]) hC rfl (tX6_old hI n p1 ((55 : Int32) + (((2 : Int32) * p2) + (1 : Int32))) m31) (va_cwS 2 hC.1.2.2.2.2 gX6_bill_X6_old rfl rfl rfl (by decide +kernel) ⟨Nat.le_of_ble_eq_true rfl, Nat.le_of_ble_eq_true rfl⟩) rfl (Nat.le_of_ble_eq_true rfl) dX6_bill_72 (fun r72 m72 => ?_)
              refine hr_iald hC km1 dX6_bill_75 ?_
              refine hr_iadd hC dX6_bill_76 ?_
              refine hr_goto (tgt := 94) hC dX6_bill_77 (by decide) ?_
              exact hr_ireti hC hr dX6_bill_94
theorem hmX6_units_7 : Cond.fieldLink RX6 7 "HeatBillsModel" "s" "[I" ∈ wsX6_units := List.mem_of_getElem? (i := 1) rfl
theorem hiX6_units_X6 : ∀ w ∈ wsX60, w ∈ wsX6_units := fun _ h => List.mem_cons_of_mem _ (List.mem_append_right _ h)
def fX6_units (n : Nat) (p1 : Int32) (p2 : Int32) (μ : hb_m) : Option (Int32 × hb_m) :=
bi (fX6_isClosed n p1 μ) (fun r2 m2 =>
if r2 = 0 then
(some ((-1 : Int32), m2))
else
(bi (fX6_old n p1 (2 : Int32) m2) (fun r16 m16 =>
if ib r16 415 then
bi (fX6_in n p2 (0 : Int32) ((rd m16 1 r16.toNatClampNeg) - (1 : Int32)) m16) (fun r22 m22 =>
if r22 = 0 then
(some ((-1 : Int32), m22))
else
(bi (fX6_old n p1 ((3 : Int32) + p2) m22) (fun r36 m36 =>
if ib r36 415 then
some ((rd m36 1 r36.toNatClampNeg), m36)
else none)))
else none)))
abbrev rmX6_units : Room := { frames := 2, cells := 0, slots := 0, locals := 43 }
set_option maxRecDepth 100000 in
set_option maxHeartbeats 4000000 in
theorem tX6_units {l : Launch} {D : va_G} {ad : Nat → Nat} {dA : Nat → ClassId} (hI : hb_I 12 ad) (n : Nat) (p1 : Int32) (p2 : Int32) (μ : hb_m) : hb_M (hb_Qi vwCl kdM 12 ad D dA) l yX6_units wsX6_units rmX6_units vwCl kdM 12 ad D dA [] [] [.ref (ad 0), .int p1, .int p2] μ (fX6_units n p1 p2 μ) := by
  refine hb_start (cc := cX6_units) (maxL := 3) (ret := (some .int)) (by decide) rfl hI (Nat.le_of_ble_eq_true rfl) [(0, .ref (ad 0)), (1, .int p1), (2, .int p2)] rfl ?_
  intro p e s m args below meth c hC hr
  rw [fX6_units]
  refine hr_aload_n hC dX6_units_0 rfl 0 rfl ?_
  refine hr_iload_n hC dX6_units_1 rfl 1 rfl ?_
  refine hr_callVi (As := [.int p1]) (k := 0) hC rfl (tX6_isClosed hI n p1 μ) (cwV 1 hC.1.2.2.2.2 gX6_units_X6_isClosed rfl rfl rfl (by decide +kernel) ⟨Nat.le_of_ble_eq_true rfl, Nat.le_of_ble_eq_true rfl⟩) km0 rfl rfl rfl (Nat.le_of_ble_eq_true rfl) dX6_units_2 (fun r2 m2 => ?_)
  refine hr_if_eq (tgt := 43) hC dX6_units_5 (by decide) (fun _ => ?_) (fun _ => ?_)
  · refine hr_iconst (v := -1) hC dX6_units_43 (by decide) ?_
    exact hr_ireti hC hr dX6_units_44
  · refine hr_iload_n hC dX6_units_8 rfl 2 rfl ?_
    refine hr_iconst (v := 0) hC dX6_units_9 (by decide) ?_
    refine hr_aload_n hC dX6_units_10 rfl 0 rfl ?_
    refine hr_getR hC hiX6_units_X6 rfl km0 0 (by decide) hmX6_units_7 rfl dX6_units_11 ?_
    refine hr_iload_n hC dX6_units_14 rfl 1 rfl ?_
    refine hr_iconst (v := 2) hC dX6_units_15 (by decide) ?_
    refine hr_callSi (As := [.int p1, .int (2 : Int32)]) hC rfl (tX6_old hI n p1 (2 : Int32) m2) (va_cwS 2 hC.1.2.2.2.2 gX6_units_X6_old rfl rfl rfl (by decide +kernel) ⟨Nat.le_of_ble_eq_true rfl, Nat.le_of_ble_eq_true rfl⟩) rfl (Nat.le_of_ble_eq_true rfl) dX6_units_16 (fun r16 m16 => ?_)
    refine hr_iald hC km1 dX6_units_19 ?_
    refine hr_iconst (v := 1) hC dX6_units_20 (by decide) ?_
    refine hr_isub hC dX6_units_21 ?_
    refine hr_callSi (As := [.int p2, .int (0 : Int32), .int ((rd m16 1 r16.toNatClampNeg) - (1 : Int32))]) hC rfl (tX6_in hI n p2 (0 : Int32) ((rd m16 1 r16.toNatClampNeg) - (1 : Int32)) m16) (va_cwS 3 hC.1.2.2.2.2 gX6_units_X6_in rfl rfl rfl (by decide +kernel) ⟨Nat.le_of_ble_eq_true rfl, Nat.le_of_ble_eq_true rfl⟩) rfl (Nat.le_of_ble_eq_true rfl) dX6_units_22 (fun r22 m22 => ?_)
    refine hr_if_eq (tgt := 43) hC dX6_units_25 (by decide) (fun _ => ?_) (fun _ => ?_)
    · refine hr_iconst (v := -1) hC dX6_units_43 (by decide) ?_
      exact hr_ireti hC hr dX6_units_44
    · refine hr_aload_n hC dX6_units_28 rfl 0 rfl ?_
      refine hr_getR hC hiX6_units_X6 rfl km0 0 (by decide) hmX6_units_7 rfl dX6_units_29 ?_
      refine hr_iload_n hC dX6_units_32 rfl 1 rfl ?_
      refine hr_iconst (v := 3) hC dX6_units_33 (by decide) ?_
      refine hr_iload_n hC dX6_units_34 rfl 2 rfl ?_
      refine hr_iadd hC dX6_units_35 ?_
      refine hr_callSi (As := [.int p1, .int ((3 : Int32) + p2)]) hC rfl (tX6_old hI n p1 ((3 : Int32) + p2) m22) (va_cwS 2 hC.1.2.2.2.2 gX6_units_X6_old rfl rfl rfl (by decide +kernel) ⟨Nat.le_of_ble_eq_true rfl, Nat.le_of_ble_eq_true rfl⟩) rfl (Nat.le_of_ble_eq_true rfl) dX6_units_36 (fun r36 m36 => ?_)
      refine hr_iald hC km1 dX6_units_39 ?_
      refine hr_goto (tgt := 44) hC dX6_units_40 (by decide) ?_
      exact hr_ireti hC hr dX6_units_44
theorem hmX6_greatest_7 : Cond.fieldLink RX6 7 "HeatBillsModel" "s" "[I" ∈ wsX6_greatest := List.mem_of_getElem? (i := 1) rfl
theorem hmX6_greatest_39 : Cond.fieldLink RX6 39 "HeatBillsModel" "used" "[I" ∈ wsX6_greatest := List.mem_of_getElem? (i := 2) rfl
theorem hiX6_greatest_X6 : ∀ w ∈ wsX60, w ∈ wsX6_greatest := fun _ h => List.mem_cons_of_mem _ (List.mem_append_right _ h)
def lX6_greatest_38 (n : Nat) (p1 : Int32) (v3 : Int32) (v2 : Int32) (k : Int32 → Int32 → hb_m → Option (Int32 × hb_m)) : Nat → Int32 → Int32 → hb_m → Option (Int32 × hb_m)
  | 0, _, _, _ => none
  | f + 1, x5, x4, μ => if ib (0 : Int32) 415 then
if (rd μ 1 (0 : Int32).toNatClampNeg) ≤ x5 then
(k x5 x4 μ)
else
(if ib x5 8 then
if ib v3 8 then
if (rd μ 10 v3.toNatClampNeg) < (rd μ 10 x5.toNatClampNeg) then
(lX6_greatest_38 n p1 v3 v2 k f (x5 + (1 : Int32)) (x4 + (1 : Int32)) μ)
else
(if ib x5 8 then
if ib v3 8 then
if (rd μ 10 x5.toNatClampNeg) = (rd μ 10 v3.toNatClampNeg) then
(if v3 ≤ x5 then
(lX6_greatest_38 n p1 v3 v2 k f (x5 + (1 : Int32)) (x4 + (0 : Int32)) μ)
else
(lX6_greatest_38 n p1 v3 v2 k f (x5 + (1 : Int32)) (x4 + (1 : Int32)) μ))
else
(lX6_greatest_38 n p1 v3 v2 k f (x5 + (1 : Int32)) (x4 + (0 : Int32)) μ)
else none
else none)
else none
else none)
else none
def lX6_greatest_22 (n : Nat) (p1 : Int32) (k : Int32 → Int32 → hb_m → Option (Int32 × hb_m)) : Nat → Int32 → Int32 → hb_m → Option (Int32 × hb_m)
  | 0, _, _, _ => none
  | f + 1, x3, x2, μ => if ib (0 : Int32) 415 then
if (rd μ 1 (0 : Int32).toNatClampNeg) ≤ x3 then
(k x3 x2 μ)
else
(lX6_greatest_38 n p1 x3 x2 (fun x5_38 x4_38 m38 =>
if x4_38 = p1 then
(lX6_greatest_22 n p1 k f (x3 + (1 : Int32)) x3 m38)
else
(lX6_greatest_22 n p1 k f (x3 + (1 : Int32)) x2 m38)) n (0 : Int32) (0 : Int32) μ)
else none
def fX6_greatest (n : Nat) (p1 : Int32) (μ : hb_m) : Option (Int32 × hb_m) :=
if 0 ≤ p1 then
(if ib (4 : Int32) 415 then
bv (fX6_laysOpen n (rd μ 1 (4 : Int32).toNatClampNeg) μ) (fun m14 =>
lX6_greatest_22 n p1 (fun x3_22 x2_22 m22 =>
some (x2_22, m22)) n (0 : Int32) (-5 : Int32) m14)
else none)
else
(some ((-2 : Int32), μ))
abbrev rmX6_greatest : Room := { frames := 6, cells := 0, slots := 0, locals := 133 }
set_option maxRecDepth 100000 in
set_option maxHeartbeats 4000000 in
theorem tX6_greatest {l : Launch} {D : va_G} {ad : Nat → Nat} {dA : Nat → ClassId} (hI : hb_I 12 ad) (n : Nat) (p1 : Int32) (μ : hb_m) : hb_M (hb_Qi vwCl kdM 12 ad D dA) l yX6_greatest wsX6_greatest rmX6_greatest vwCl kdM 12 ad D dA [] [] [.ref (ad 0), .int p1] μ (fX6_greatest n p1 μ) := by
  refine hb_start (cc := cX6_greatest) (maxL := 6) (ret := (some .int)) (by decide) rfl hI (Nat.le_of_ble_eq_true rfl) [(0, .ref (ad 0)), (1, .int p1)] rfl ?_
  intro p e s m args below meth c hC hr
  have L38 : ∀ (v3 : Int32) (v2 : Int32) (k : Int32 → Int32 → hb_m → Option (Int32 × hb_m)) (hk : ∀ (x5 : Int32) (x4 : Int32) (μ : hb_m), hb_V p l e rmX6_greatest s m args below meth c 6 vwCl kdM 12 ad D dA (hb_Qi vwCl kdM 12 ad D dA) μ 103 [(5, .int x5), (4, .int x4), (3, .int v3), (2, .int v2), (0, .ref (ad 0)), (1, .int p1)] [] (k x5 x4 μ)) (f : Nat) (x5 : Int32) (x4 : Int32) (μ : hb_m), hb_V p l e rmX6_greatest s m args below meth c 6 vwCl kdM 12 ad D dA (hb_Qi vwCl kdM 12 ad D dA) μ 38 [(5, .int x5), (4, .int x4), (3, .int v3), (2, .int v2), (0, .ref (ad 0)), (1, .int p1)] [] (lX6_greatest_38 n p1 v3 v2 k f x5 x4 μ) := by
    intro v3 v2 k hk f
    induction f with
    | zero => intro x5 x4 μ; rw [lX6_greatest_38]; exact hr_none
    | succ f ih =>
      intro x5 x4 μ
      rw [lX6_greatest_38]
      refine hr_iload hC dX6_greatest_38 0 rfl ?_
      refine hr_aload_n hC dX6_greatest_40 rfl 4 rfl ?_
      refine hr_getR hC hiX6_greatest_X6 rfl km0 0 (by decide) hmX6_greatest_7 rfl dX6_greatest_41 ?_
      refine hr_iconst (v := 0) hC dX6_greatest_44 (by decide) ?_
      refine hr_iald hC km1 dX6_greatest_45 ?_
      refine hr_icmp_ge (tgt := 103) hC dX6_greatest_46 (by decide) (fun _ => ?_) (fun _ => ?_)
      · refine hr_sub (lv' := [(5, .int x5), (4, .int x4), (3, .int v3), (2, .int v2), (0, .ref (ad 0)), (1, .int p1)]) [0, 1, 2, 3, 4, 5] rfl ?_
        exact hk _ _ _
      · refine hr_iload hC dX6_greatest_49 1 rfl ?_
        refine hr_aload_n hC dX6_greatest_51 rfl 4 rfl ?_
        refine hr_getR hC hiX6_greatest_X6 rfl km0 12 (by decide) hmX6_greatest_39 rfl dX6_greatest_52 ?_
        refine hr_iload hC dX6_greatest_55 0 rfl ?_
        refine hr_iald hC km10 dX6_greatest_57 ?_
        refine hr_aload_n hC dX6_greatest_58 rfl 4 rfl ?_
        refine hr_getR hC hiX6_greatest_X6 rfl km0 12 (by decide) hmX6_greatest_39 rfl dX6_greatest_59 ?_
        refine hr_iload_n hC dX6_greatest_62 rfl 2 rfl ?_
        refine hr_iald hC km10 dX6_greatest_63 ?_
        refine hr_icmp_gt (tgt := 89) hC dX6_greatest_64 (by decide) (fun _ => ?_) (fun _ => ?_)
        · refine hr_iconst (v := 1) hC dX6_greatest_89 (by decide) ?_
          refine hr_goto (tgt := 94) hC dX6_greatest_90 (by decide) ?_
          refine hr_iadd hC dX6_greatest_94 ?_
          refine hr_istore (lv' := [(4, .int (x4 + (1 : Int32))), (5, .int x5), (3, .int v3), (2, .int v2), (0, .ref (ad 0)), (1, .int p1)]) hC dX6_greatest_95 (by decide) rfl ?_
          refine hr_iinc (v := (x5 + (1 : Int32))) (lv' := [(5, .int (x5 + (1 : Int32))), (4, .int (x4 + (1 : Int32))), (3, .int v3), (2, .int v2), (0, .ref (ad 0)), (1, .int p1)]) (kx := 1) hC dX6_greatest_97 rfl rfl (by decide) rfl ?_
          refine hr_goto (tgt := 38) hC dX6_greatest_100 (by decide) ?_
          refine hr_sub (lv' := [(5, .int (x5 + (1 : Int32))), (4, .int (x4 + (1 : Int32))), (3, .int v3), (2, .int v2), (0, .ref (ad 0)), (1, .int p1)]) [0, 1, 2, 3, 4, 5] rfl ?_
          exact ih _ _ _
        · refine hr_aload_n hC dX6_greatest_67 rfl 4 rfl ?_
          refine hr_getR hC hiX6_greatest_X6 rfl km0 12 (by decide) hmX6_greatest_39 rfl dX6_greatest_68 ?_
          refine hr_iload hC dX6_greatest_71 0 rfl ?_
          refine hr_iald hC km10 dX6_greatest_73 ?_
          refine hr_aload_n hC dX6_greatest_74 rfl 4 rfl ?_
          refine hr_getR hC hiX6_greatest_X6 rfl km0 12 (by decide) hmX6_greatest_39 rfl dX6_greatest_75 ?_
          refine hr_iload_n hC dX6_greatest_78 rfl 2 rfl ?_
          refine hr_iald hC km10 dX6_greatest_79 ?_
          refine hr_icmp_ne (tgt := 93) hC dX6_greatest_80 (by decide) (fun _ => ?_) (fun _ => ?_)
          · refine hr_iload hC dX6_greatest_83 0 rfl ?_
            refine hr_iload_n hC dX6_greatest_85 rfl 2 rfl ?_
            refine hr_icmp_ge (tgt := 93) hC dX6_greatest_86 (by decide) (fun _ => ?_) (fun _ => ?_)
            · refine hr_iconst (v := 0) hC dX6_greatest_93 (by decide) ?_
              refine hr_iadd hC dX6_greatest_94 ?_
              refine hr_istore (lv' := [(4, .int (x4 + (0 : Int32))), (5, .int x5), (3, .int v3), (2, .int v2), (0, .ref (ad 0)), (1, .int p1)]) hC dX6_greatest_95 (by decide) rfl ?_
              refine hr_iinc (v := (x5 + (1 : Int32))) (lv' := [(5, .int (x5 + (1 : Int32))), (4, .int (x4 + (0 : Int32))), (3, .int v3), (2, .int v2), (0, .ref (ad 0)), (1, .int p1)]) (kx := 1) hC dX6_greatest_97 rfl rfl (by decide) rfl ?_
              refine hr_goto (tgt := 38) hC dX6_greatest_100 (by decide) ?_
              refine hr_sub (lv' := [(5, .int (x5 + (1 : Int32))), (4, .int (x4 + (0 : Int32))), (3, .int v3), (2, .int v2), (0, .ref (ad 0)), (1, .int p1)]) [0, 1, 2, 3, 4, 5] rfl ?_
              exact ih _ _ _
            · refine hr_iconst (v := 1) hC dX6_greatest_89 (by decide) ?_
              refine hr_goto (tgt := 94) hC dX6_greatest_90 (by decide) ?_
              refine hr_iadd hC dX6_greatest_94 ?_
              refine hr_istore (lv' := [(4, .int (x4 + (1 : Int32))), (5, .int x5), (3, .int v3), (2, .int v2), (0, .ref (ad 0)), (1, .int p1)]) hC dX6_greatest_95 (by decide) rfl ?_
              refine hr_iinc (v := (x5 + (1 : Int32))) (lv' := [(5, .int (x5 + (1 : Int32))), (4, .int (x4 + (1 : Int32))), (3, .int v3), (2, .int v2), (0, .ref (ad 0)), (1, .int p1)]) (kx := 1) hC dX6_greatest_97 rfl rfl (by decide) rfl ?_
              refine hr_goto (tgt := 38) hC dX6_greatest_100 (by decide) ?_
              refine hr_sub (lv' := [(5, .int (x5 + (1 : Int32))), (4, .int (x4 + (1 : Int32))), (3, .int v3), (2, .int v2), (0, .ref (ad 0)), (1, .int p1)]) [0, 1, 2, 3, 4, 5] rfl ?_
              exact ih _ _ _
          · refine hr_iconst (v := 0) hC dX6_greatest_93 (by decide) ?_
            refine hr_iadd hC dX6_greatest_94 ?_
            refine hr_istore (lv' := [(4, .int (x4 + (0 : Int32))), (5, .int x5), (3, .int v3), (2, .int v2), (0, .ref (ad 0)), (1, .int p1)]) hC dX6_greatest_95 (by decide) rfl ?_
            refine hr_iinc (v := (x5 + (1 : Int32))) (lv' := [(5, .int (x5 + (1 : Int32))), (4, .int (x4 + (0 : Int32))), (3, .int v3), (2, .int v2), (0, .ref (ad 0)), (1, .int p1)]) (kx := 1) hC dX6_greatest_97 rfl rfl (by decide) rfl ?_
            refine hr_goto (tgt := 38) hC dX6_greatest_100 (by decide) ?_
            refine hr_sub (lv' := [(5, .int (x5 + (1 : Int32))), (4, .int (x4 + (0 : Int32))), (3, .int v3), (2, .int v2), (0, .ref (ad 0)), (1, .int p1)]) [0, 1, 2, 3, 4, 5] rfl ?_
            exact ih _ _ _
  have L22 : ∀ (k : Int32 → Int32 → hb_m → Option (Int32 × hb_m)) (hk : ∀ (x3 : Int32) (x2 : Int32) (μ : hb_m), hb_V p l e rmX6_greatest s m args below meth c 6 vwCl kdM 12 ad D dA (hb_Qi vwCl kdM 12 ad D dA) μ 121 [(3, .int x3), (2, .int x2), (0, .ref (ad 0)), (1, .int p1)] [] (k x3 x2 μ)) (f : Nat) (x3 : Int32) (x2 : Int32) (μ : hb_m), hb_V p l e rmX6_greatest s m args below meth c 6 vwCl kdM 12 ad D dA (hb_Qi vwCl kdM 12 ad D dA) μ 22 [(3, .int x3), (2, .int x2), (0, .ref (ad 0)), (1, .int p1)] [] (lX6_greatest_22 n p1 k f x3 x2 μ) := by
    intro k hk f
    induction f with
    | zero => intro x3 x2 μ; rw [lX6_greatest_22]; exact hr_none
    | succ f ih =>
      intro x3 x2 μ
      rw [lX6_greatest_22]
      refine hr_iload_n hC dX6_greatest_22 rfl 0 rfl ?_
      refine hr_aload_n hC dX6_greatest_23 rfl 2 rfl ?_
      refine hr_getR hC hiX6_greatest_X6 rfl km0 0 (by decide) hmX6_greatest_7 rfl dX6_greatest_24 ?_
      refine hr_iconst (v := 0) hC dX6_greatest_27 (by decide) ?_
      refine hr_iald hC km1 dX6_greatest_28 ?_
      refine hr_icmp_ge (tgt := 121) hC dX6_greatest_29 (by decide) (fun _ => ?_) (fun _ => ?_)
      · refine hr_sub (lv' := [(3, .int x3), (2, .int x2), (0, .ref (ad 0)), (1, .int p1)]) [0, 1, 2, 3] rfl ?_
        exact hk _ _ _
      · refine hr_iconst (v := 0) hC dX6_greatest_32 (by decide) ?_
        refine hr_istore (lv' := [(4, .int (0 : Int32)), (3, .int x3), (2, .int x2), (0, .ref (ad 0)), (1, .int p1)]) hC dX6_greatest_33 (by decide) rfl ?_
        refine hr_iconst (v := 0) hC dX6_greatest_35 (by decide) ?_
        refine hr_istore (lv' := [(5, .int (0 : Int32)), (4, .int (0 : Int32)), (3, .int x3), (2, .int x2), (0, .ref (ad 0)), (1, .int p1)]) hC dX6_greatest_36 (by decide) rfl ?_
        refine hr_sub (lv' := [(5, .int (0 : Int32)), (4, .int (0 : Int32)), (3, .int x3), (2, .int x2), (0, .ref (ad 0)), (1, .int p1)]) [0, 1, 2, 3, 4, 5] rfl ?_
        refine L38 _ _ _ (fun x5_38 x4_38 m38 => ?_) _ _ _ _
        refine hr_iload hC dX6_greatest_103 1 rfl ?_
        refine hr_iload_n hC dX6_greatest_105 rfl 5 rfl ?_
        refine hr_icmp_ne (tgt := 113) hC dX6_greatest_106 (by decide) (fun _ => ?_) (fun _ => ?_)
        · refine hr_iload_n hC dX6_greatest_109 rfl 2 rfl ?_
          refine hr_goto (tgt := 114) hC dX6_greatest_110 (by decide) ?_
          refine hr_istore_n (lv' := [(2, .int x3), (5, .int x5_38), (4, .int x4_38), (3, .int x3), (0, .ref (ad 0)), (1, .int p1)]) hC dX6_greatest_114 rfl (by decide) rfl ?_
          refine hr_iinc (v := (x3 + (1 : Int32))) (lv' := [(3, .int (x3 + (1 : Int32))), (2, .int x3), (5, .int x5_38), (4, .int x4_38), (0, .ref (ad 0)), (1, .int p1)]) (kx := 3) hC dX6_greatest_115 rfl rfl (by decide) rfl ?_
          refine hr_goto (tgt := 22) hC dX6_greatest_118 (by decide) ?_
          refine hr_sub (lv' := [(3, .int (x3 + (1 : Int32))), (2, .int x3), (0, .ref (ad 0)), (1, .int p1)]) [0, 1, 4, 5] rfl ?_
          exact ih _ _ _
        · refine hr_iload_n hC dX6_greatest_113 rfl 3 rfl ?_
          refine hr_istore_n (lv' := [(2, .int x2), (5, .int x5_38), (4, .int x4_38), (3, .int x3), (0, .ref (ad 0)), (1, .int p1)]) hC dX6_greatest_114 rfl (by decide) rfl ?_
          refine hr_iinc (v := (x3 + (1 : Int32))) (lv' := [(3, .int (x3 + (1 : Int32))), (2, .int x2), (5, .int x5_38), (4, .int x4_38), (0, .ref (ad 0)), (1, .int p1)]) (kx := 3) hC dX6_greatest_115 rfl rfl (by decide) rfl ?_
          refine hr_goto (tgt := 22) hC dX6_greatest_118 (by decide) ?_
          refine hr_sub (lv' := [(3, .int (x3 + (1 : Int32))), (2, .int x2), (0, .ref (ad 0)), (1, .int p1)]) [0, 1, 4, 5] rfl ?_
          exact ih _ _ _
  rw [fX6_greatest]
  refine hr_iload_n hC dX6_greatest_0 rfl 1 rfl ?_
  refine hr_if_ge (tgt := 7) hC dX6_greatest_1 (by decide) (fun _ => ?_) (fun _ => ?_)
  · refine hr_aload_n hC dX6_greatest_7 rfl 0 rfl ?_
    refine hr_aload_n hC dX6_greatest_8 rfl 0 rfl ?_
    refine hr_getR hC hiX6_greatest_X6 rfl km0 0 (by decide) hmX6_greatest_7 rfl dX6_greatest_9 ?_
    refine hr_iconst (v := 4) hC dX6_greatest_12 (by decide) ?_
    refine hr_iald hC km1 dX6_greatest_13 ?_
    refine hr_callVv (As := [.int (rd μ 1 (4 : Int32).toNatClampNeg)]) (k := 0) hC rfl (tX6_laysOpen hI n (rd μ 1 (4 : Int32).toNatClampNeg) μ) (cwV 1 hC.1.2.2.2.2 gX6_greatest_X6_laysOpen rfl rfl rfl (by decide +kernel) ⟨Nat.le_of_ble_eq_true rfl, Nat.le_of_ble_eq_true rfl⟩) km0 rfl rfl rfl (Nat.le_of_ble_eq_true rfl) dX6_greatest_14 (fun m14 => ?_)
    refine hr_bipush (v := -5) hC dX6_greatest_17 (by decide) ?_
    refine hr_istore_n (lv' := [(2, .int (-5 : Int32)), (0, .ref (ad 0)), (1, .int p1)]) hC dX6_greatest_19 rfl (by decide) rfl ?_
    refine hr_iconst (v := 0) hC dX6_greatest_20 (by decide) ?_
    refine hr_istore_n (lv' := [(3, .int (0 : Int32)), (2, .int (-5 : Int32)), (0, .ref (ad 0)), (1, .int p1)]) hC dX6_greatest_21 rfl (by decide) rfl ?_
    refine hr_sub (lv' := [(3, .int (0 : Int32)), (2, .int (-5 : Int32)), (0, .ref (ad 0)), (1, .int p1)]) [0, 1, 2, 3] rfl ?_
    refine L22 _ (fun x3_22 x2_22 m22 => ?_) _ _ _ _
    refine hr_iload_n hC dX6_greatest_121 rfl 1 rfl ?_
    exact hr_ireti hC hr dX6_greatest_122
  · refine hr_bipush (v := -2) hC dX6_greatest_4 (by decide) ?_
    exact hr_ireti hC hr dX6_greatest_6
theorem hmX6_billBy_36 : Cond.fieldLink RX6 36 "HeatBillsModel" "bases" "[I" ∈ wsX6_billBy := List.mem_of_getElem? (i := 1) rfl
theorem hmX6_billBy_39 : Cond.fieldLink RX6 39 "HeatBillsModel" "used" "[I" ∈ wsX6_billBy := List.mem_of_getElem? (i := 2) rfl
theorem hiX6_billBy_X6 : ∀ w ∈ wsX60, w ∈ wsX6_billBy := fun _ h => List.mem_cons_of_mem _ (List.mem_append_right _ h)
def fX6_billBy (n : Nat) (p1 : Int32) (p2 : Int32) (μ : hb_m) : Option (Int32 × hb_m) :=
bv (fX6_laysOpen n p2 μ) (fun m2 =>
if ib p1 8 then
if ib p1 8 then
some (((rd m2 9 p1.toNatClampNeg) + (rd m2 10 p1.toNatClampNeg)), m2)
else none
else none)
abbrev rmX6_billBy : Room := { frames := 6, cells := 0, slots := 0, locals := 133 }
set_option maxRecDepth 100000 in
set_option maxHeartbeats 4000000 in
theorem tX6_billBy {l : Launch} {D : va_G} {ad : Nat → Nat} {dA : Nat → ClassId} (hI : hb_I 12 ad) (n : Nat) (p1 : Int32) (p2 : Int32) (μ : hb_m) : hb_M (hb_Qi vwCl kdM 12 ad D dA) l yX6_billBy wsX6_billBy rmX6_billBy vwCl kdM 12 ad D dA [] [] [.ref (ad 0), .int p1, .int p2] μ (fX6_billBy n p1 p2 μ) := by
  refine hb_start (cc := cX6_billBy) (maxL := 3) (ret := (some .int)) (by decide) rfl hI (Nat.le_of_ble_eq_true rfl) [(0, .ref (ad 0)), (1, .int p1), (2, .int p2)] rfl ?_
  intro p e s m args below meth c hC hr
  rw [fX6_billBy]
  refine hr_aload_n hC dX6_billBy_0 rfl 0 rfl ?_
  refine hr_iload_n hC dX6_billBy_1 rfl 2 rfl ?_
  refine hr_callVv (As := [.int p2]) (k := 0) hC rfl (tX6_laysOpen hI n p2 μ) (cwV 1 hC.1.2.2.2.2 gX6_billBy_X6_laysOpen rfl rfl rfl (by decide +kernel) ⟨Nat.le_of_ble_eq_true rfl, Nat.le_of_ble_eq_true rfl⟩) km0 rfl rfl rfl (Nat.le_of_ble_eq_true rfl) dX6_billBy_2 (fun m2 => ?_)
  refine hr_aload_n hC dX6_billBy_5 rfl 0 rfl ?_
  refine hr_getR hC hiX6_billBy_X6 rfl km0 11 (by decide) hmX6_billBy_36 rfl dX6_billBy_6 ?_
  refine hr_iload_n hC dX6_billBy_9 rfl 1 rfl ?_
  refine hr_iald hC km9 dX6_billBy_10 ?_
  refine hr_aload_n hC dX6_billBy_11 rfl 0 rfl ?_
  refine hr_getR hC hiX6_billBy_X6 rfl km0 12 (by decide) hmX6_billBy_39 rfl dX6_billBy_12 ?_
  refine hr_iload_n hC dX6_billBy_15 rfl 1 rfl ?_
  refine hr_iald hC km10 dX6_billBy_16 ?_
  refine hr_iadd hC dX6_billBy_17 ?_
  exact hr_ireti hC hr dX6_billBy_18
def fX6_billIf (n : Nat) (p1 : Int32) (p2 : Int32) (μ : hb_m) : Option (Int32 × hb_m) :=
bi (fX6_isFlat n p1 μ) (fun r2 m2 =>
if r2 = 0 then
(some ((-1 : Int32), m2))
else
(bi (fX6_in n p2 (0 : Int32) (100 : Int32) m2) (fun r14 m14 =>
if r14 = 0 then
(some ((-2 : Int32), m14))
else
(bi (fX6_billBy n p1 p2 m14) (fun r23 m23 =>
some (r23, m23))))))
abbrev rmX6_billIf : Room := { frames := 7, cells := 0, slots := 0, locals := 155 }
set_option maxRecDepth 100000 in
set_option maxHeartbeats 4000000 in
theorem tX6_billIf {l : Launch} {D : va_G} {ad : Nat → Nat} {dA : Nat → ClassId} (hI : hb_I 12 ad) (n : Nat) (p1 : Int32) (p2 : Int32) (μ : hb_m) : hb_M (hb_Qi vwCl kdM 12 ad D dA) l yX6_billIf wsX6_billIf rmX6_billIf vwCl kdM 12 ad D dA [] [] [.ref (ad 0), .int p1, .int p2] μ (fX6_billIf n p1 p2 μ) := by
  refine hb_start (cc := cX6_billIf) (maxL := 3) (ret := (some .int)) (by decide) rfl hI (Nat.le_of_ble_eq_true rfl) [(0, .ref (ad 0)), (1, .int p1), (2, .int p2)] rfl ?_
  intro p e s m args below meth c hC hr
  rw [fX6_billIf]
  refine hr_aload_n hC dX6_billIf_0 rfl 0 rfl ?_
  refine hr_iload_n hC dX6_billIf_1 rfl 1 rfl ?_
  refine hr_callVi (As := [.int p1]) (k := 0) hC rfl (tX6_isFlat hI n p1 μ) (cwV 1 hC.1.2.2.2.2 gX6_billIf_X6_isFlat rfl rfl rfl (by decide +kernel) ⟨Nat.le_of_ble_eq_true rfl, Nat.le_of_ble_eq_true rfl⟩) km0 rfl rfl rfl (Nat.le_of_ble_eq_true rfl) dX6_billIf_2 (fun r2 m2 => ?_)
  refine hr_if_ne (tgt := 10) hC dX6_billIf_5 (by decide) (fun _ => ?_) (fun _ => ?_)
  · refine hr_iconst (v := -1) hC dX6_billIf_8 (by decide) ?_
    exact hr_ireti hC hr dX6_billIf_9
  · refine hr_iload_n hC dX6_billIf_10 rfl 2 rfl ?_
    refine hr_iconst (v := 0) hC dX6_billIf_11 (by decide) ?_
    refine hr_bipush (v := 100) hC dX6_billIf_12 (by decide) ?_
    refine hr_callSi (As := [.int p2, .int (0 : Int32), .int (100 : Int32)]) hC rfl (tX6_in hI n p2 (0 : Int32) (100 : Int32) m2) (va_cwS 3 hC.1.2.2.2.2 gX6_billIf_X6_in rfl rfl rfl (by decide +kernel) ⟨Nat.le_of_ble_eq_true rfl, Nat.le_of_ble_eq_true rfl⟩) rfl (Nat.le_of_ble_eq_true rfl) dX6_billIf_14 (fun r14 m14 => ?_)
    refine hr_if_eq (tgt := 29) hC dX6_billIf_17 (by decide) (fun _ => ?_) (fun _ => ?_)
    · refine hr_bipush (v := -2) hC dX6_billIf_29 (by decide) ?_
      exact hr_ireti hC hr dX6_billIf_31
    · refine hr_aload_n hC dX6_billIf_20 rfl 0 rfl ?_
      refine hr_iload_n hC dX6_billIf_21 rfl 1 rfl ?_
      refine hr_iload_n hC dX6_billIf_22 rfl 2 rfl ?_
      refine hr_callVi (As := [.int p1, .int p2]) (k := 0) hC rfl (tX6_billBy hI n p1 p2 m14) (cwV 2 hC.1.2.2.2.2 gX6_billIf_X6_billBy rfl rfl rfl (by decide +kernel) ⟨Nat.le_of_ble_eq_true rfl, Nat.le_of_ble_eq_true rfl⟩) km0 rfl rfl rfl (Nat.le_of_ble_eq_true rfl) dX6_billIf_23 (fun r23 m23 => ?_)
      refine hr_goto (tgt := 31) hC dX6_billIf_26 (by decide) ?_
      exact hr_ireti hC hr dX6_billIf_31
def lX6_bestShare_22 (n : Nat) (p1 : Int32) (k : Int32 → Int32 → Int32 → hb_m → Option (Int32 × hb_m)) : Nat → Int32 → Int32 → Int32 → hb_m → Option (Int32 × hb_m)
  | 0, _, _, _, _ => none
  | f + 1, x4, x3, x2, μ => if (100 : Int32) < x4 then
(k x4 x3 x2 μ)
else
(bi (fX6_billBy n p1 x4 μ) (fun r33 m33 =>
if x3 ≤ r33 then
(if x3 ≤ r33 then
(lX6_bestShare_22 n p1 k f (x4 + (1 : Int32)) x3 x2 m33)
else
(lX6_bestShare_22 n p1 k f (x4 + (1 : Int32)) r33 x2 m33))
else
(if x3 ≤ r33 then
(lX6_bestShare_22 n p1 k f (x4 + (1 : Int32)) x3 x4 m33)
else
(lX6_bestShare_22 n p1 k f (x4 + (1 : Int32)) r33 x4 m33))))
def fX6_bestShare (n : Nat) (p1 : Int32) (μ : hb_m) : Option (Int32 × hb_m) :=
bi (fX6_isFlat n p1 μ) (fun r2 m2 =>
if r2 = 0 then
(some ((-1 : Int32), m2))
else
(bi (fX6_billBy n p1 (0 : Int32) m2) (fun r15 m15 =>
lX6_bestShare_22 n p1 (fun x4_22 x3_22 x2_22 m22 =>
some (x2_22, m22)) n (1 : Int32) r15 (0 : Int32) m15)))
abbrev rmX6_bestShare : Room := { frames := 7, cells := 0, slots := 0, locals := 155 }
set_option maxRecDepth 100000 in
set_option maxHeartbeats 4000000 in
theorem tX6_bestShare {l : Launch} {D : va_G} {ad : Nat → Nat} {dA : Nat → ClassId} (hI : hb_I 12 ad) (n : Nat) (p1 : Int32) (μ : hb_m) : hb_M (hb_Qi vwCl kdM 12 ad D dA) l yX6_bestShare wsX6_bestShare rmX6_bestShare vwCl kdM 12 ad D dA [] [] [.ref (ad 0), .int p1] μ (fX6_bestShare n p1 μ) := by
  refine hb_start (cc := cX6_bestShare) (maxL := 6) (ret := (some .int)) (by decide) rfl hI (Nat.le_of_ble_eq_true rfl) [(0, .ref (ad 0)), (1, .int p1)] rfl ?_
  intro p e s m args below meth c hC hr
  have L22 : ∀ (k : Int32 → Int32 → Int32 → hb_m → Option (Int32 × hb_m)) (hk : ∀ (x4 : Int32) (x3 : Int32) (x2 : Int32) (μ : hb_m), hb_V p l e rmX6_bestShare s m args below meth c 6 vwCl kdM 12 ad D dA (hb_Qi vwCl kdM 12 ad D dA) μ 70 [(4, .int x4), (3, .int x3), (2, .int x2), (0, .ref (ad 0)), (1, .int p1)] [] (k x4 x3 x2 μ)) (f : Nat) (x4 : Int32) (x3 : Int32) (x2 : Int32) (μ : hb_m), hb_V p l e rmX6_bestShare s m args below meth c 6 vwCl kdM 12 ad D dA (hb_Qi vwCl kdM 12 ad D dA) μ 22 [(4, .int x4), (3, .int x3), (2, .int x2), (0, .ref (ad 0)), (1, .int p1)] [] (lX6_bestShare_22 n p1 k f x4 x3 x2 μ) := by
    intro k hk f
    induction f with
    | zero => intro x4 x3 x2 μ; rw [lX6_bestShare_22]; exact hr_none
    | succ f ih =>
      intro x4 x3 x2 μ
      rw [lX6_bestShare_22]
      refine hr_iload hC dX6_bestShare_22 0 rfl ?_
      refine hr_bipush (v := 100) hC dX6_bestShare_24 (by decide) ?_
      refine hr_icmp_gt (tgt := 70) hC dX6_bestShare_26 (by decide) (fun _ => ?_) (fun _ => ?_)
      · refine hr_sub (lv' := [(4, .int x4), (3, .int x3), (2, .int x2), (0, .ref (ad 0)), (1, .int p1)]) [0, 1, 2, 3, 4] rfl ?_
        exact hk _ _ _ _
      · refine hr_aload_n hC dX6_bestShare_29 rfl 3 rfl ?_
        refine hr_iload_n hC dX6_bestShare_30 rfl 4 rfl ?_
        refine hr_iload hC dX6_bestShare_31 0 rfl ?_
        refine hr_callVi (As := [.int p1, .int x4]) (k := 0) hC rfl (tX6_billBy hI n p1 x4 μ) (cwV 2 hC.1.2.2.2.2 gX6_bestShare_X6_billBy rfl rfl rfl (by decide +kernel) ⟨Nat.le_of_ble_eq_true rfl, Nat.le_of_ble_eq_true rfl⟩) km0 rfl rfl rfl (Nat.le_of_ble_eq_true rfl) dX6_bestShare_33 (fun r33 m33 => ?_)
        refine hr_istore (lv' := [(5, .int r33), (4, .int x4), (3, .int x3), (2, .int x2), (0, .ref (ad 0)), (1, .int p1)]) hC dX6_bestShare_36 (by decide) rfl ?_
        refine hr_iload hC dX6_bestShare_38 0 rfl ?_
        refine hr_iload_n hC dX6_bestShare_40 rfl 2 rfl ?_
        refine hr_icmp_ge (tgt := 49) hC dX6_bestShare_41 (by decide) (fun _ => ?_) (fun _ => ?_)
        · refine hr_iload_n hC dX6_bestShare_49 rfl 3 rfl ?_
          refine hr_istore_n (lv' := [(2, .int x2), (5, .int r33), (4, .int x4), (3, .int x3), (0, .ref (ad 0)), (1, .int p1)]) hC dX6_bestShare_50 rfl (by decide) rfl ?_
          refine hr_iload hC dX6_bestShare_51 1 rfl ?_
          refine hr_iload_n hC dX6_bestShare_53 rfl 3 rfl ?_
          refine hr_icmp_ge (tgt := 62) hC dX6_bestShare_54 (by decide) (fun _ => ?_) (fun _ => ?_)
          · refine hr_iload_n hC dX6_bestShare_62 rfl 3 rfl ?_
            refine hr_istore_n (lv' := [(3, .int x3), (2, .int x2), (5, .int r33), (4, .int x4), (0, .ref (ad 0)), (1, .int p1)]) hC dX6_bestShare_63 rfl (by decide) rfl ?_
            refine hr_iinc (v := (x4 + (1 : Int32))) (lv' := [(4, .int (x4 + (1 : Int32))), (3, .int x3), (2, .int x2), (5, .int r33), (0, .ref (ad 0)), (1, .int p1)]) (kx := 3) hC dX6_bestShare_64 rfl rfl (by decide) rfl ?_
            refine hr_goto (tgt := 22) hC dX6_bestShare_67 (by decide) ?_
            refine hr_sub (lv' := [(4, .int (x4 + (1 : Int32))), (3, .int x3), (2, .int x2), (0, .ref (ad 0)), (1, .int p1)]) [0, 1, 2, 4, 5] rfl ?_
            exact ih _ _ _ _
          · refine hr_iload hC dX6_bestShare_57 1 rfl ?_
            refine hr_goto (tgt := 63) hC dX6_bestShare_59 (by decide) ?_
            refine hr_istore_n (lv' := [(3, .int r33), (2, .int x2), (5, .int r33), (4, .int x4), (0, .ref (ad 0)), (1, .int p1)]) hC dX6_bestShare_63 rfl (by decide) rfl ?_
            refine hr_iinc (v := (x4 + (1 : Int32))) (lv' := [(4, .int (x4 + (1 : Int32))), (3, .int r33), (2, .int x2), (5, .int r33), (0, .ref (ad 0)), (1, .int p1)]) (kx := 3) hC dX6_bestShare_64 rfl rfl (by decide) rfl ?_
            refine hr_goto (tgt := 22) hC dX6_bestShare_67 (by decide) ?_
            refine hr_sub (lv' := [(4, .int (x4 + (1 : Int32))), (3, .int r33), (2, .int x2), (0, .ref (ad 0)), (1, .int p1)]) [0, 1, 2, 4, 5] rfl ?_
            exact ih _ _ _ _
        · refine hr_iload hC dX6_bestShare_44 1 rfl ?_
          refine hr_goto (tgt := 50) hC dX6_bestShare_46 (by decide) ?_
          refine hr_istore_n (lv' := [(2, .int x4), (5, .int r33), (4, .int x4), (3, .int x3), (0, .ref (ad 0)), (1, .int p1)]) hC dX6_bestShare_50 rfl (by decide) rfl ?_
          refine hr_iload hC dX6_bestShare_51 1 rfl ?_
          refine hr_iload_n hC dX6_bestShare_53 rfl 3 rfl ?_
          refine hr_icmp_ge (tgt := 62) hC dX6_bestShare_54 (by decide) (fun _ => ?_) (fun _ => ?_)
          · refine hr_iload_n hC dX6_bestShare_62 rfl 3 rfl ?_
            refine hr_istore_n (lv' := [(3, .int x3), (2, .int x4), (5, .int r33), (4, .int x4), (0, .ref (ad 0)), (1, .int p1)]) hC dX6_bestShare_63 rfl (by decide) rfl ?_
            refine hr_iinc (v := (x4 + (1 : Int32))) (lv' := [(4, .int (x4 + (1 : Int32))), (3, .int x3), (2, .int x4), (5, .int r33), (0, .ref (ad 0)), (1, .int p1)]) (kx := 3) hC dX6_bestShare_64 rfl rfl (by decide) rfl ?_
            refine hr_goto (tgt := 22) hC dX6_bestShare_67 (by decide) ?_
            refine hr_sub (lv' := [(4, .int (x4 + (1 : Int32))), (3, .int x3), (2, .int x4), (0, .ref (ad 0)), (1, .int p1)]) [0, 1, 2, 4, 5] rfl ?_
            exact ih _ _ _ _
          · refine hr_iload hC dX6_bestShare_57 1 rfl ?_
            refine hr_goto (tgt := 63) hC dX6_bestShare_59 (by decide) ?_
            refine hr_istore_n (lv' := [(3, .int r33), (2, .int x4), (5, .int r33), (4, .int x4), (0, .ref (ad 0)), (1, .int p1)]) hC dX6_bestShare_63 rfl (by decide) rfl ?_
            refine hr_iinc (v := (x4 + (1 : Int32))) (lv' := [(4, .int (x4 + (1 : Int32))), (3, .int r33), (2, .int x4), (5, .int r33), (0, .ref (ad 0)), (1, .int p1)]) (kx := 3) hC dX6_bestShare_64 rfl rfl (by decide) rfl ?_
            refine hr_goto (tgt := 22) hC dX6_bestShare_67 (by decide) ?_
            refine hr_sub (lv' := [(4, .int (x4 + (1 : Int32))), (3, .int r33), (2, .int x4), (0, .ref (ad 0)), (1, .int p1)]) [0, 1, 2, 4, 5] rfl ?_
            exact ih _ _ _ _
  rw [fX6_bestShare]
  refine hr_aload_n hC dX6_bestShare_0 rfl 0 rfl ?_
  refine hr_iload_n hC dX6_bestShare_1 rfl 1 rfl ?_
  refine hr_callVi (As := [.int p1]) (k := 0) hC rfl (tX6_isFlat hI n p1 μ) (cwV 1 hC.1.2.2.2.2 gX6_bestShare_X6_isFlat rfl rfl rfl (by decide +kernel) ⟨Nat.le_of_ble_eq_true rfl, Nat.le_of_ble_eq_true rfl⟩) km0 rfl rfl rfl (Nat.le_of_ble_eq_true rfl) dX6_bestShare_2 (fun r2 m2 => ?_)
  refine hr_if_ne (tgt := 10) hC dX6_bestShare_5 (by decide) (fun _ => ?_) (fun _ => ?_)
  · refine hr_iconst (v := -1) hC dX6_bestShare_8 (by decide) ?_
    exact hr_ireti hC hr dX6_bestShare_9
  · refine hr_iconst (v := 0) hC dX6_bestShare_10 (by decide) ?_
    refine hr_istore_n (lv' := [(2, .int (0 : Int32)), (0, .ref (ad 0)), (1, .int p1)]) hC dX6_bestShare_11 rfl (by decide) rfl ?_
    refine hr_aload_n hC dX6_bestShare_12 rfl 1 rfl ?_
    refine hr_iload_n hC dX6_bestShare_13 rfl 2 rfl ?_
    refine hr_iconst (v := 0) hC dX6_bestShare_14 (by decide) ?_
    refine hr_callVi (As := [.int p1, .int (0 : Int32)]) (k := 0) hC rfl (tX6_billBy hI n p1 (0 : Int32) m2) (cwV 2 hC.1.2.2.2.2 gX6_bestShare_X6_billBy rfl rfl rfl (by decide +kernel) ⟨Nat.le_of_ble_eq_true rfl, Nat.le_of_ble_eq_true rfl⟩) km0 rfl rfl rfl (Nat.le_of_ble_eq_true rfl) dX6_bestShare_15 (fun r15 m15 => ?_)
    refine hr_istore_n (lv' := [(3, .int r15), (2, .int (0 : Int32)), (0, .ref (ad 0)), (1, .int p1)]) hC dX6_bestShare_18 rfl (by decide) rfl ?_
    refine hr_iconst (v := 1) hC dX6_bestShare_19 (by decide) ?_
    refine hr_istore (lv' := [(4, .int (1 : Int32)), (3, .int r15), (2, .int (0 : Int32)), (0, .ref (ad 0)), (1, .int p1)]) hC dX6_bestShare_20 (by decide) rfl ?_
    refine hr_sub (lv' := [(4, .int (1 : Int32)), (3, .int r15), (2, .int (0 : Int32)), (0, .ref (ad 0)), (1, .int p1)]) [0, 1, 2, 3, 4] rfl ?_
    refine L22 _ (fun x4_22 x3_22 x2_22 m22 => ?_) _ _ _ _ _
    refine hr_iload_n hC dX6_bestShare_70 rfl 2 rfl ?_
    exact hr_ireti hC hr dX6_bestShare_71
theorem hmX6_areas_7 : Cond.fieldLink RX6 7 "HeatBillsModel" "s" "[I" ∈ wsX6_areas := List.mem_of_getElem? (i := 1) rfl
theorem hiX6_areas_X6 : ∀ w ∈ wsX60, w ∈ wsX6_areas := fun _ h => List.mem_cons_of_mem _ (List.mem_append_right _ h)
def lX6_areas_4 (n : Nat) (k : Int32 → Int32 → hb_m → Option (Int32 × hb_m)) : Nat → Int32 → Int32 → hb_m → Option (Int32 × hb_m)
  | 0, _, _, _ => none
  | f + 1, x2, x1, μ => if ib (0 : Int32) 415 then
if (rd μ 1 (0 : Int32).toNatClampNeg) ≤ x2 then
(k x2 x1 μ)
else
(bi (fX6_ofFlat n x2 (0 : Int32) μ) (fun r18 m18 =>
lX6_areas_4 n k f (x2 + (1 : Int32)) (x1 + r18) m18))
else none
def fX6_areas (n : Nat) (μ : hb_m) : Option (Int32 × hb_m) :=
lX6_areas_4 n (fun x2_4 x1_4 m4 =>
some (x1_4, m4)) n (0 : Int32) (0 : Int32) μ
abbrev rmX6_areas : Room := { frames := 1, cells := 0, slots := 0, locals := 22 }
set_option maxRecDepth 100000 in
set_option maxHeartbeats 4000000 in
theorem tX6_areas {l : Launch} {D : va_G} {ad : Nat → Nat} {dA : Nat → ClassId} (hI : hb_I 12 ad) (n : Nat) (μ : hb_m) : hb_M (hb_Qi vwCl kdM 12 ad D dA) l yX6_areas wsX6_areas rmX6_areas vwCl kdM 12 ad D dA [] [] [.ref (ad 0)] μ (fX6_areas n μ) := by
  refine hb_start (cc := cX6_areas) (maxL := 3) (ret := (some .int)) (by decide) rfl hI (Nat.le_of_ble_eq_true rfl) [(0, .ref (ad 0))] rfl ?_
  intro p e s m args below meth c hC hr
  have L4 : ∀ (k : Int32 → Int32 → hb_m → Option (Int32 × hb_m)) (hk : ∀ (x2 : Int32) (x1 : Int32) (μ : hb_m), hb_V p l e rmX6_areas s m args below meth c 3 vwCl kdM 12 ad D dA (hb_Qi vwCl kdM 12 ad D dA) μ 29 [(2, .int x2), (1, .int x1), (0, .ref (ad 0))] [] (k x2 x1 μ)) (f : Nat) (x2 : Int32) (x1 : Int32) (μ : hb_m), hb_V p l e rmX6_areas s m args below meth c 3 vwCl kdM 12 ad D dA (hb_Qi vwCl kdM 12 ad D dA) μ 4 [(2, .int x2), (1, .int x1), (0, .ref (ad 0))] [] (lX6_areas_4 n k f x2 x1 μ) := by
    intro k hk f
    induction f with
    | zero => intro x2 x1 μ; rw [lX6_areas_4]; exact hr_none
    | succ f ih =>
      intro x2 x1 μ
      rw [lX6_areas_4]
      refine hr_iload_n hC dX6_areas_4 rfl 0 rfl ?_
      refine hr_aload_n hC dX6_areas_5 rfl 2 rfl ?_
      refine hr_getR hC hiX6_areas_X6 rfl km0 0 (by decide) hmX6_areas_7 rfl dX6_areas_6 ?_
      refine hr_iconst (v := 0) hC dX6_areas_9 (by decide) ?_
      refine hr_iald hC km1 dX6_areas_10 ?_
      refine hr_icmp_ge (tgt := 29) hC dX6_areas_11 (by decide) (fun _ => ?_) (fun _ => ?_)
      · refine hr_sub (lv' := [(2, .int x2), (1, .int x1), (0, .ref (ad 0))]) [0, 1, 2] rfl ?_
        exact hk _ _ _
      · refine hr_iload_n hC dX6_areas_14 rfl 1 rfl ?_
        refine hr_aload_n hC dX6_areas_15 rfl 2 rfl ?_
        refine hr_iload_n hC dX6_areas_16 rfl 0 rfl ?_
        refine hr_iconst (v := 0) hC dX6_areas_17 (by decide) ?_
        refine hr_callVi (As := [.int x2, .int (0 : Int32)]) (k := 0) hC rfl (tX6_ofFlat hI n x2 (0 : Int32) μ) (cwV 2 hC.1.2.2.2.2 gX6_areas_X6_ofFlat rfl rfl rfl (by decide +kernel) ⟨Nat.le_of_ble_eq_true rfl, Nat.le_of_ble_eq_true rfl⟩) km0 rfl rfl rfl (Nat.le_of_ble_eq_true rfl) dX6_areas_18 (fun r18 m18 => ?_)
        refine hr_iadd hC dX6_areas_21 ?_
        refine hr_istore_n (lv' := [(1, .int (x1 + r18)), (2, .int x2), (0, .ref (ad 0))]) hC dX6_areas_22 rfl (by decide) rfl ?_
        refine hr_iinc (v := (x2 + (1 : Int32))) (lv' := [(2, .int (x2 + (1 : Int32))), (1, .int (x1 + r18)), (0, .ref (ad 0))]) (kx := 1) hC dX6_areas_23 rfl rfl (by decide) rfl ?_
        refine hr_goto (tgt := 4) hC dX6_areas_26 (by decide) ?_
        refine hr_sub (lv' := [(2, .int (x2 + (1 : Int32))), (1, .int (x1 + r18)), (0, .ref (ad 0))]) [0, 1, 2] rfl ?_
        exact ih _ _ _
  rw [fX6_areas]
  refine hr_iconst (v := 0) hC dX6_areas_0 (by decide) ?_
  refine hr_istore_n (lv' := [(1, .int (0 : Int32)), (0, .ref (ad 0))]) hC dX6_areas_1 rfl (by decide) rfl ?_
  refine hr_iconst (v := 0) hC dX6_areas_2 (by decide) ?_
  refine hr_istore_n (lv' := [(2, .int (0 : Int32)), (1, .int (0 : Int32)), (0, .ref (ad 0))]) hC dX6_areas_3 rfl (by decide) rfl ?_
  refine hr_sub (lv' := [(2, .int (0 : Int32)), (1, .int (0 : Int32)), (0, .ref (ad 0))]) [0, 1, 2] rfl ?_
  refine L4 _ (fun x2_4 x1_4 m4 => ?_) _ _ _ _
  refine hr_iload_n hC dX6_areas_29 rfl 1 rfl ?_
  exact hr_ireti hC hr dX6_areas_30
theorem hmX6_allUnits_7 : Cond.fieldLink RX6 7 "HeatBillsModel" "s" "[I" ∈ wsX6_allUnits := List.mem_of_getElem? (i := 1) rfl
theorem hiX6_allUnits_X6 : ∀ w ∈ wsX60, w ∈ wsX6_allUnits := fun _ h => List.mem_cons_of_mem _ (List.mem_append_right _ h)
def lX6_allUnits_4 (n : Nat) (k : Int32 → Int32 → hb_m → Option (Int32 × hb_m)) : Nat → Int32 → Int32 → hb_m → Option (Int32 × hb_m)
  | 0, _, _, _ => none
  | f + 1, x2, x1, μ => if ib (1 : Int32) 415 then
if (rd μ 1 (1 : Int32).toNatClampNeg) ≤ x2 then
(k x2 x1 μ)
else
(bi (fX6_unitsNow n x2 μ) (fun r17 m17 =>
lX6_allUnits_4 n k f (x2 + (1 : Int32)) (x1 + r17) m17))
else none
def fX6_allUnits (n : Nat) (μ : hb_m) : Option (Int32 × hb_m) :=
lX6_allUnits_4 n (fun x2_4 x1_4 m4 =>
some (x1_4, m4)) n (0 : Int32) (0 : Int32) μ
abbrev rmX6_allUnits : Room := { frames := 4, cells := 0, slots := 0, locals := 91 }
set_option maxRecDepth 100000 in
set_option maxHeartbeats 4000000 in
theorem tX6_allUnits {l : Launch} {D : va_G} {ad : Nat → Nat} {dA : Nat → ClassId} (hI : hb_I 12 ad) (n : Nat) (μ : hb_m) : hb_M (hb_Qi vwCl kdM 12 ad D dA) l yX6_allUnits wsX6_allUnits rmX6_allUnits vwCl kdM 12 ad D dA [] [] [.ref (ad 0)] μ (fX6_allUnits n μ) := by
  refine hb_start (cc := cX6_allUnits) (maxL := 3) (ret := (some .int)) (by decide) rfl hI (Nat.le_of_ble_eq_true rfl) [(0, .ref (ad 0))] rfl ?_
  intro p e s m args below meth c hC hr
  have L4 : ∀ (k : Int32 → Int32 → hb_m → Option (Int32 × hb_m)) (hk : ∀ (x2 : Int32) (x1 : Int32) (μ : hb_m), hb_V p l e rmX6_allUnits s m args below meth c 3 vwCl kdM 12 ad D dA (hb_Qi vwCl kdM 12 ad D dA) μ 28 [(2, .int x2), (1, .int x1), (0, .ref (ad 0))] [] (k x2 x1 μ)) (f : Nat) (x2 : Int32) (x1 : Int32) (μ : hb_m), hb_V p l e rmX6_allUnits s m args below meth c 3 vwCl kdM 12 ad D dA (hb_Qi vwCl kdM 12 ad D dA) μ 4 [(2, .int x2), (1, .int x1), (0, .ref (ad 0))] [] (lX6_allUnits_4 n k f x2 x1 μ) := by
    intro k hk f
    induction f with
    | zero => intro x2 x1 μ; rw [lX6_allUnits_4]; exact hr_none
    | succ f ih =>
      intro x2 x1 μ
      rw [lX6_allUnits_4]
      refine hr_iload_n hC dX6_allUnits_4 rfl 0 rfl ?_
      refine hr_aload_n hC dX6_allUnits_5 rfl 2 rfl ?_
      refine hr_getR hC hiX6_allUnits_X6 rfl km0 0 (by decide) hmX6_allUnits_7 rfl dX6_allUnits_6 ?_
      refine hr_iconst (v := 1) hC dX6_allUnits_9 (by decide) ?_
      refine hr_iald hC km1 dX6_allUnits_10 ?_
      refine hr_icmp_ge (tgt := 28) hC dX6_allUnits_11 (by decide) (fun _ => ?_) (fun _ => ?_)
      · refine hr_sub (lv' := [(2, .int x2), (1, .int x1), (0, .ref (ad 0))]) [0, 1, 2] rfl ?_
        exact hk _ _ _
      · refine hr_iload_n hC dX6_allUnits_14 rfl 1 rfl ?_
        refine hr_aload_n hC dX6_allUnits_15 rfl 2 rfl ?_
        refine hr_iload_n hC dX6_allUnits_16 rfl 0 rfl ?_
        refine hr_callVi (As := [.int x2]) (k := 0) hC rfl (tX6_unitsNow hI n x2 μ) (cwV 1 hC.1.2.2.2.2 gX6_allUnits_X6_unitsNow rfl rfl rfl (by decide +kernel) ⟨Nat.le_of_ble_eq_true rfl, Nat.le_of_ble_eq_true rfl⟩) km0 rfl rfl rfl (Nat.le_of_ble_eq_true rfl) dX6_allUnits_17 (fun r17 m17 => ?_)
        refine hr_iadd hC dX6_allUnits_20 ?_
        refine hr_istore_n (lv' := [(1, .int (x1 + r17)), (2, .int x2), (0, .ref (ad 0))]) hC dX6_allUnits_21 rfl (by decide) rfl ?_
        refine hr_iinc (v := (x2 + (1 : Int32))) (lv' := [(2, .int (x2 + (1 : Int32))), (1, .int (x1 + r17)), (0, .ref (ad 0))]) (kx := 1) hC dX6_allUnits_22 rfl rfl (by decide) rfl ?_
        refine hr_goto (tgt := 4) hC dX6_allUnits_25 (by decide) ?_
        refine hr_sub (lv' := [(2, .int (x2 + (1 : Int32))), (1, .int (x1 + r17)), (0, .ref (ad 0))]) [0, 1, 2] rfl ?_
        exact ih _ _ _
  rw [fX6_allUnits]
  refine hr_iconst (v := 0) hC dX6_allUnits_0 (by decide) ?_
  refine hr_istore_n (lv' := [(1, .int (0 : Int32)), (0, .ref (ad 0))]) hC dX6_allUnits_1 rfl (by decide) rfl ?_
  refine hr_iconst (v := 0) hC dX6_allUnits_2 (by decide) ?_
  refine hr_istore_n (lv' := [(2, .int (0 : Int32)), (1, .int (0 : Int32)), (0, .ref (ad 0))]) hC dX6_allUnits_3 rfl (by decide) rfl ?_
  refine hr_sub (lv' := [(2, .int (0 : Int32)), (1, .int (0 : Int32)), (0, .ref (ad 0))]) [0, 1, 2] rfl ?_
  refine L4 _ (fun x2_4 x1_4 m4 => ?_) _ _ _ _
  refine hr_iload_n hC dX6_allUnits_28 rfl 1 rfl ?_
  exact hr_ireti hC hr dX6_allUnits_29
theorem hmX6_openBills_7 : Cond.fieldLink RX6 7 "HeatBillsModel" "s" "[I" ∈ wsX6_openBills := List.mem_of_getElem? (i := 1) rfl
theorem hmX6_openBills_36 : Cond.fieldLink RX6 36 "HeatBillsModel" "bases" "[I" ∈ wsX6_openBills := List.mem_of_getElem? (i := 2) rfl
theorem hmX6_openBills_39 : Cond.fieldLink RX6 39 "HeatBillsModel" "used" "[I" ∈ wsX6_openBills := List.mem_of_getElem? (i := 3) rfl
theorem hiX6_openBills_X6 : ∀ w ∈ wsX60, w ∈ wsX6_openBills := fun _ h => List.mem_cons_of_mem _ (List.mem_append_right _ h)
def lX6_openBills_14 (n : Nat) (k : Int32 → Int32 → hb_m → Option (Int32 × hb_m)) : Nat → Int32 → Int32 → hb_m → Option (Int32 × hb_m)
  | 0, _, _, _ => none
  | f + 1, x2, x1, μ => if ib (0 : Int32) 415 then
if (rd μ 1 (0 : Int32).toNatClampNeg) ≤ x2 then
(k x2 x1 μ)
else
(if ib x2 8 then
if ib x2 8 then
lX6_openBills_14 n k f (x2 + (1 : Int32)) (x1 + ((rd μ 9 x2.toNatClampNeg) + (rd μ 10 x2.toNatClampNeg))) μ
else none
else none)
else none
def fX6_openBills (n : Nat) (μ : hb_m) : Option (Int32 × hb_m) :=
if ib (4 : Int32) 415 then
bv (fX6_laysOpen n (rd μ 1 (4 : Int32).toNatClampNeg) μ) (fun m7 =>
lX6_openBills_14 n (fun x2_14 x1_14 m14 =>
some (x1_14, m14)) n (0 : Int32) (0 : Int32) m7)
else none
abbrev rmX6_openBills : Room := { frames := 6, cells := 0, slots := 0, locals := 133 }
set_option maxRecDepth 100000 in
set_option maxHeartbeats 4000000 in
theorem tX6_openBills {l : Launch} {D : va_G} {ad : Nat → Nat} {dA : Nat → ClassId} (hI : hb_I 12 ad) (n : Nat) (μ : hb_m) : hb_M (hb_Qi vwCl kdM 12 ad D dA) l yX6_openBills wsX6_openBills rmX6_openBills vwCl kdM 12 ad D dA [] [] [.ref (ad 0)] μ (fX6_openBills n μ) := by
  refine hb_start (cc := cX6_openBills) (maxL := 3) (ret := (some .int)) (by decide) rfl hI (Nat.le_of_ble_eq_true rfl) [(0, .ref (ad 0))] rfl ?_
  intro p e s m args below meth c hC hr
  have L14 : ∀ (k : Int32 → Int32 → hb_m → Option (Int32 × hb_m)) (hk : ∀ (x2 : Int32) (x1 : Int32) (μ : hb_m), hb_V p l e rmX6_openBills s m args below meth c 3 vwCl kdM 12 ad D dA (hb_Qi vwCl kdM 12 ad D dA) μ 46 [(2, .int x2), (1, .int x1), (0, .ref (ad 0))] [] (k x2 x1 μ)) (f : Nat) (x2 : Int32) (x1 : Int32) (μ : hb_m), hb_V p l e rmX6_openBills s m args below meth c 3 vwCl kdM 12 ad D dA (hb_Qi vwCl kdM 12 ad D dA) μ 14 [(2, .int x2), (1, .int x1), (0, .ref (ad 0))] [] (lX6_openBills_14 n k f x2 x1 μ) := by
    intro k hk f
    induction f with
    | zero => intro x2 x1 μ; rw [lX6_openBills_14]; exact hr_none
    | succ f ih =>
      intro x2 x1 μ
      rw [lX6_openBills_14]
      refine hr_iload_n hC dX6_openBills_14 rfl 0 rfl ?_
      refine hr_aload_n hC dX6_openBills_15 rfl 2 rfl ?_
      refine hr_getR hC hiX6_openBills_X6 rfl km0 0 (by decide) hmX6_openBills_7 rfl dX6_openBills_16 ?_
      refine hr_iconst (v := 0) hC dX6_openBills_19 (by decide) ?_
      refine hr_iald hC km1 dX6_openBills_20 ?_
      refine hr_icmp_ge (tgt := 46) hC dX6_openBills_21 (by decide) (fun _ => ?_) (fun _ => ?_)
      · refine hr_sub (lv' := [(2, .int x2), (1, .int x1), (0, .ref (ad 0))]) [0, 1, 2] rfl ?_
        exact hk _ _ _
      · refine hr_iload_n hC dX6_openBills_24 rfl 1 rfl ?_
        refine hr_aload_n hC dX6_openBills_25 rfl 2 rfl ?_
        refine hr_getR hC hiX6_openBills_X6 rfl km0 11 (by decide) hmX6_openBills_36 rfl dX6_openBills_26 ?_
        refine hr_iload_n hC dX6_openBills_29 rfl 0 rfl ?_
        refine hr_iald hC km9 dX6_openBills_30 ?_
        refine hr_aload_n hC dX6_openBills_31 rfl 2 rfl ?_
        refine hr_getR hC hiX6_openBills_X6 rfl km0 12 (by decide) hmX6_openBills_39 rfl dX6_openBills_32 ?_
        refine hr_iload_n hC dX6_openBills_35 rfl 0 rfl ?_
        refine hr_iald hC km10 dX6_openBills_36 ?_
        refine hr_iadd hC dX6_openBills_37 ?_
        refine hr_iadd hC dX6_openBills_38 ?_
        refine hr_istore_n (lv' := [(1, .int (x1 + ((rd μ 9 x2.toNatClampNeg) + (rd μ 10 x2.toNatClampNeg)))), (2, .int x2), (0, .ref (ad 0))]) hC dX6_openBills_39 rfl (by decide) rfl ?_
        refine hr_iinc (v := (x2 + (1 : Int32))) (lv' := [(2, .int (x2 + (1 : Int32))), (1, .int (x1 + ((rd μ 9 x2.toNatClampNeg) + (rd μ 10 x2.toNatClampNeg)))), (0, .ref (ad 0))]) (kx := 1) hC dX6_openBills_40 rfl rfl (by decide) rfl ?_
        refine hr_goto (tgt := 14) hC dX6_openBills_43 (by decide) ?_
        refine hr_sub (lv' := [(2, .int (x2 + (1 : Int32))), (1, .int (x1 + ((rd μ 9 x2.toNatClampNeg) + (rd μ 10 x2.toNatClampNeg)))), (0, .ref (ad 0))]) [0, 1, 2] rfl ?_
        exact ih _ _ _
  rw [fX6_openBills]
  refine hr_aload_n hC dX6_openBills_0 rfl 0 rfl ?_
  refine hr_aload_n hC dX6_openBills_1 rfl 0 rfl ?_
  refine hr_getR hC hiX6_openBills_X6 rfl km0 0 (by decide) hmX6_openBills_7 rfl dX6_openBills_2 ?_
  refine hr_iconst (v := 4) hC dX6_openBills_5 (by decide) ?_
  refine hr_iald hC km1 dX6_openBills_6 ?_
  refine hr_callVv (As := [.int (rd μ 1 (4 : Int32).toNatClampNeg)]) (k := 0) hC rfl (tX6_laysOpen hI n (rd μ 1 (4 : Int32).toNatClampNeg) μ) (cwV 1 hC.1.2.2.2.2 gX6_openBills_X6_laysOpen rfl rfl rfl (by decide +kernel) ⟨Nat.le_of_ble_eq_true rfl, Nat.le_of_ble_eq_true rfl⟩) km0 rfl rfl rfl (Nat.le_of_ble_eq_true rfl) dX6_openBills_7 (fun m7 => ?_)
  refine hr_iconst (v := 0) hC dX6_openBills_10 (by decide) ?_
  refine hr_istore_n (lv' := [(1, .int (0 : Int32)), (0, .ref (ad 0))]) hC dX6_openBills_11 rfl (by decide) rfl ?_
  refine hr_iconst (v := 0) hC dX6_openBills_12 (by decide) ?_
  refine hr_istore_n (lv' := [(2, .int (0 : Int32)), (1, .int (0 : Int32)), (0, .ref (ad 0))]) hC dX6_openBills_13 rfl (by decide) rfl ?_
  refine hr_sub (lv' := [(2, .int (0 : Int32)), (1, .int (0 : Int32)), (0, .ref (ad 0))]) [0, 1, 2] rfl ?_
  refine L14 _ (fun x2_14 x1_14 m14 => ?_) _ _ _ _
  refine hr_iload_n hC dX6_openBills_46 rfl 1 rfl ?_
  exact hr_ireti hC hr dX6_openBills_47
theorem hmX6_oldBills_7 : Cond.fieldLink RX6 7 "HeatBillsModel" "s" "[I" ∈ wsX6_oldBills := List.mem_of_getElem? (i := 1) rfl
theorem hiX6_oldBills_X6 : ∀ w ∈ wsX60, w ∈ wsX6_oldBills := fun _ h => List.mem_cons_of_mem _ (List.mem_append_right _ h)
def lX6_oldBills_4 (n : Nat) (k : Int32 → Int32 → hb_m → Option (Int32 × hb_m)) : Nat → Int32 → Int32 → hb_m → Option (Int32 × hb_m)
  | 0, _, _, _ => none
  | f + 1, x2, x1, μ => if ib (2 : Int32) 415 then
if ib (0 : Int32) 415 then
if (((rd μ 1 (2 : Int32).toNatClampNeg) * (2 : Int32)) * (rd μ 1 (0 : Int32).toNatClampNeg)) ≤ x2 then
(k x2 x1 μ)
else
(if ib (0 : Int32) 415 then
if ((2 : Int32) * (rd μ 1 (0 : Int32).toNatClampNeg)) = 0 then none else
if ib (0 : Int32) 415 then
if ((2 : Int32) * (rd μ 1 (0 : Int32).toNatClampNeg)) = 0 then none else
bi (fX6_old n (x2 / ((2 : Int32) * (rd μ 1 (0 : Int32).toNatClampNeg))) ((39 : Int32) + (x2 - x2 / ((2 : Int32) * (rd μ 1 (0 : Int32).toNatClampNeg)) * ((2 : Int32) * (rd μ 1 (0 : Int32).toNatClampNeg)))) μ) (fun r51 m51 =>
if ib r51 415 then
lX6_oldBills_4 n k f (x2 + (1 : Int32)) (x1 + (rd m51 1 r51.toNatClampNeg)) m51
else none)
else none
else none)
else none
else none
def fX6_oldBills (n : Nat) (μ : hb_m) : Option (Int32 × hb_m) :=
lX6_oldBills_4 n (fun x2_4 x1_4 m4 =>
some (x1_4, m4)) n (0 : Int32) (0 : Int32) μ
abbrev rmX6_oldBills : Room := { frames := 1, cells := 0, slots := 0, locals := 21 }
set_option maxRecDepth 100000 in
set_option maxHeartbeats 4000000 in
theorem tX6_oldBills {l : Launch} {D : va_G} {ad : Nat → Nat} {dA : Nat → ClassId} (hI : hb_I 12 ad) (n : Nat) (μ : hb_m) : hb_M (hb_Qi vwCl kdM 12 ad D dA) l yX6_oldBills wsX6_oldBills rmX6_oldBills vwCl kdM 12 ad D dA [] [] [.ref (ad 0)] μ (fX6_oldBills n μ) := by
  refine hb_start (cc := cX6_oldBills) (maxL := 3) (ret := (some .int)) (by decide) rfl hI (Nat.le_of_ble_eq_true rfl) [(0, .ref (ad 0))] rfl ?_
  intro p e s m args below meth c hC hr
  have L4 : ∀ (k : Int32 → Int32 → hb_m → Option (Int32 × hb_m)) (hk : ∀ (x2 : Int32) (x1 : Int32) (μ : hb_m), hb_V p l e rmX6_oldBills s m args below meth c 3 vwCl kdM 12 ad D dA (hb_Qi vwCl kdM 12 ad D dA) μ 63 [(2, .int x2), (1, .int x1), (0, .ref (ad 0))] [] (k x2 x1 μ)) (f : Nat) (x2 : Int32) (x1 : Int32) (μ : hb_m), hb_V p l e rmX6_oldBills s m args below meth c 3 vwCl kdM 12 ad D dA (hb_Qi vwCl kdM 12 ad D dA) μ 4 [(2, .int x2), (1, .int x1), (0, .ref (ad 0))] [] (lX6_oldBills_4 n k f x2 x1 μ) := by
    intro k hk f
    induction f with
    | zero => intro x2 x1 μ; rw [lX6_oldBills_4]; exact hr_none
    | succ f ih =>
      intro x2 x1 μ
      rw [lX6_oldBills_4]
      refine hr_iload_n hC dX6_oldBills_4 rfl 0 rfl ?_
      refine hr_aload_n hC dX6_oldBills_5 rfl 2 rfl ?_
      refine hr_getR hC hiX6_oldBills_X6 rfl km0 0 (by decide) hmX6_oldBills_7 rfl dX6_oldBills_6 ?_
      refine hr_iconst (v := 2) hC dX6_oldBills_9 (by decide) ?_
      refine hr_iald hC km1 dX6_oldBills_10 ?_
      refine hr_iconst (v := 2) hC dX6_oldBills_11 (by decide) ?_
      refine hr_imul hC dX6_oldBills_12 ?_
      refine hr_aload_n hC dX6_oldBills_13 rfl 2 rfl ?_
      refine hr_getR hC hiX6_oldBills_X6 rfl km0 0 (by decide) hmX6_oldBills_7 rfl dX6_oldBills_14 ?_
      refine hr_iconst (v := 0) hC dX6_oldBills_17 (by decide) ?_
      refine hr_iald hC km1 dX6_oldBills_18 ?_
      refine hr_imul hC dX6_oldBills_19 ?_
      refine hr_icmp_ge (tgt := 63) hC dX6_oldBills_20 (by decide) (fun _ => ?_) (fun _ => ?_)
      · refine hr_sub (lv' := [(2, .int x2), (1, .int x1), (0, .ref (ad 0))]) [0, 1, 2] rfl ?_
        exact hk _ _ _
      · refine hr_iload_n hC dX6_oldBills_23 rfl 1 rfl ?_
        refine hr_aload_n hC dX6_oldBills_24 rfl 2 rfl ?_
        refine hr_getR hC hiX6_oldBills_X6 rfl km0 0 (by decide) hmX6_oldBills_7 rfl dX6_oldBills_25 ?_
        refine hr_iload_n hC dX6_oldBills_28 rfl 0 rfl ?_
        refine hr_iconst (v := 2) hC dX6_oldBills_29 (by decide) ?_
        refine hr_aload_n hC dX6_oldBills_30 rfl 2 rfl ?_
        refine hr_getR hC hiX6_oldBills_X6 rfl km0 0 (by decide) hmX6_oldBills_7 rfl dX6_oldBills_31 ?_
        refine hr_iconst (v := 0) hC dX6_oldBills_34 (by decide) ?_
        refine hr_iald hC km1 dX6_oldBills_35 ?_
        refine hr_imul hC dX6_oldBills_36 ?_
        refine hr_idivZ hC dX6_oldBills_37 ?_
        refine hr_bipush (v := 39) hC dX6_oldBills_38 (by decide) ?_
        refine hr_iload_n hC dX6_oldBills_40 rfl 0 rfl ?_
        refine hr_iconst (v := 2) hC dX6_oldBills_41 (by decide) ?_
        refine hr_aload_n hC dX6_oldBills_42 rfl 2 rfl ?_
        refine hr_getR hC hiX6_oldBills_X6 rfl km0 0 (by decide) hmX6_oldBills_7 rfl dX6_oldBills_43 ?_
        refine hr_iconst (v := 0) hC dX6_oldBills_46 (by decide) ?_
        refine hr_iald hC km1 dX6_oldBills_47 ?_
        refine hr_imul hC dX6_oldBills_48 ?_
        refine hr_iremZ hC dX6_oldBills_49 ?_
        refine hr_iadd hC dX6_oldBills_50 ?_
        refine hr_callSi (As := [.int (x2 / ((2 : Int32) * (rd μ 1 (0 : Int32).toNatClampNeg))), .int ((39 : Int32) + (x2 - x2 / ((2 : Int32) * (rd μ 1 (0 : Int32).toNatClampNeg)) * ((2 : Int32) * (rd μ 1 (0 : Int32).toNatClampNeg))))]) hC rfl (tX6_old hI n (x2 / ((2 : Int32) * (rd μ 1 (0 : Int32).toNatClampNeg))) ((39 : Int32) + (x2 - x2 / ((2 : Int32) * (rd μ 1 (0 : Int32).toNatClampNeg)) * ((2 : Int32) * (rd μ 1 (0 : Int32).toNatClampNeg)))) μ) (va_cwS 2 hC.1.2.2.2.2 gX6_oldBills_X6_old rfl rfl rfl (by decide +kernel) ⟨Nat.le_of_ble_eq_true rfl, Nat.le_of_ble_eq_true rfl⟩) rfl (Nat.le_of_ble_eq_true rfl) dX6_oldBills_51 (fun r51 m51 => ?_)
        refine hr_iald hC km1 dX6_oldBills_54 ?_
        refine hr_iadd hC dX6_oldBills_55 ?_
        refine hr_istore_n (lv' := [(1, .int (x1 + (rd m51 1 r51.toNatClampNeg))), (2, .int x2), (0, .ref (ad 0))]) hC dX6_oldBills_56 rfl (by decide) rfl ?_
        refine hr_iinc (v := (x2 + (1 : Int32))) (lv' := [(2, .int (x2 + (1 : Int32))), (1, .int (x1 + (rd m51 1 r51.toNatClampNeg))), (0, .ref (ad 0))]) (kx := 1) hC dX6_oldBills_57 rfl rfl (by decide) rfl ?_
        refine hr_goto (tgt := 4) hC dX6_oldBills_60 (by decide) ?_
        refine hr_sub (lv' := [(2, .int (x2 + (1 : Int32))), (1, .int (x1 + (rd m51 1 r51.toNatClampNeg))), (0, .ref (ad 0))]) [0, 1, 2] rfl ?_
        exact ih _ _ _
  rw [fX6_oldBills]
  refine hr_iconst (v := 0) hC dX6_oldBills_0 (by decide) ?_
  refine hr_istore_n (lv' := [(1, .int (0 : Int32)), (0, .ref (ad 0))]) hC dX6_oldBills_1 rfl (by decide) rfl ?_
  refine hr_iconst (v := 0) hC dX6_oldBills_2 (by decide) ?_
  refine hr_istore_n (lv' := [(2, .int (0 : Int32)), (1, .int (0 : Int32)), (0, .ref (ad 0))]) hC dX6_oldBills_3 rfl (by decide) rfl ?_
  refine hr_sub (lv' := [(2, .int (0 : Int32)), (1, .int (0 : Int32)), (0, .ref (ad 0))]) [0, 1, 2] rfl ?_
  refine L4 _ (fun x2_4 x1_4 m4 => ?_) _ _ _ _
  refine hr_iload_n hC dX6_oldBills_63 rfl 1 rfl ?_
  exact hr_ireti hC hr dX6_oldBills_64
theorem hmX6_moves_7 : Cond.fieldLink RX6 7 "HeatBillsModel" "s" "[I" ∈ wsX6_moves := List.mem_of_getElem? (i := 1) rfl
theorem hiX6_moves_X6 : ∀ w ∈ wsX60, w ∈ wsX6_moves := fun _ h => List.mem_cons_of_mem _ (List.mem_append_right _ h)
def lX6_moves_4 (n : Nat) (k : Int32 → Int32 → hb_m → Option (Int32 × hb_m)) : Nat → Int32 → Int32 → hb_m → Option (Int32 × hb_m)
  | 0, _, _, _ => none
  | f + 1, x2, x1, μ => if ib (0 : Int32) 415 then
if (rd μ 1 (0 : Int32).toNatClampNeg) ≤ x2 then
(k x2 x1 μ)
else
(bi (fX6_ofFlat n x2 (1 : Int32) μ) (fun r18 m18 =>
if r18 ≤ 0 then
(lX6_moves_4 n k f (x2 + (1 : Int32)) (x1 + (0 : Int32)) m18)
else
(lX6_moves_4 n k f (x2 + (1 : Int32)) (x1 + (1 : Int32)) m18)))
else none
def fX6_moves (n : Nat) (μ : hb_m) : Option (Int32 × hb_m) :=
lX6_moves_4 n (fun x2_4 x1_4 m4 =>
some (x1_4, m4)) n (0 : Int32) (0 : Int32) μ
abbrev rmX6_moves : Room := { frames := 1, cells := 0, slots := 0, locals := 22 }
set_option maxRecDepth 100000 in
set_option maxHeartbeats 4000000 in
theorem tX6_moves {l : Launch} {D : va_G} {ad : Nat → Nat} {dA : Nat → ClassId} (hI : hb_I 12 ad) (n : Nat) (μ : hb_m) : hb_M (hb_Qi vwCl kdM 12 ad D dA) l yX6_moves wsX6_moves rmX6_moves vwCl kdM 12 ad D dA [] [] [.ref (ad 0)] μ (fX6_moves n μ) := by
  refine hb_start (cc := cX6_moves) (maxL := 3) (ret := (some .int)) (by decide) rfl hI (Nat.le_of_ble_eq_true rfl) [(0, .ref (ad 0))] rfl ?_
  intro p e s m args below meth c hC hr
  have L4 : ∀ (k : Int32 → Int32 → hb_m → Option (Int32 × hb_m)) (hk : ∀ (x2 : Int32) (x1 : Int32) (μ : hb_m), hb_V p l e rmX6_moves s m args below meth c 3 vwCl kdM 12 ad D dA (hb_Qi vwCl kdM 12 ad D dA) μ 37 [(2, .int x2), (1, .int x1), (0, .ref (ad 0))] [] (k x2 x1 μ)) (f : Nat) (x2 : Int32) (x1 : Int32) (μ : hb_m), hb_V p l e rmX6_moves s m args below meth c 3 vwCl kdM 12 ad D dA (hb_Qi vwCl kdM 12 ad D dA) μ 4 [(2, .int x2), (1, .int x1), (0, .ref (ad 0))] [] (lX6_moves_4 n k f x2 x1 μ) := by
    intro k hk f
    induction f with
    | zero => intro x2 x1 μ; rw [lX6_moves_4]; exact hr_none
    | succ f ih =>
      intro x2 x1 μ
      rw [lX6_moves_4]
      refine hr_iload_n hC dX6_moves_4 rfl 0 rfl ?_
      refine hr_aload_n hC dX6_moves_5 rfl 2 rfl ?_
      refine hr_getR hC hiX6_moves_X6 rfl km0 0 (by decide) hmX6_moves_7 rfl dX6_moves_6 ?_
      refine hr_iconst (v := 0) hC dX6_moves_9 (by decide) ?_
      refine hr_iald hC km1 dX6_moves_10 ?_
      refine hr_icmp_ge (tgt := 37) hC dX6_moves_11 (by decide) (fun _ => ?_) (fun _ => ?_)
      · refine hr_sub (lv' := [(2, .int x2), (1, .int x1), (0, .ref (ad 0))]) [0, 1, 2] rfl ?_
        exact hk _ _ _
      · refine hr_iload_n hC dX6_moves_14 rfl 1 rfl ?_
        refine hr_aload_n hC dX6_moves_15 rfl 2 rfl ?_
        refine hr_iload_n hC dX6_moves_16 rfl 0 rfl ?_
        refine hr_iconst (v := 1) hC dX6_moves_17 (by decide) ?_
        refine hr_callVi (As := [.int x2, .int (1 : Int32)]) (k := 0) hC rfl (tX6_ofFlat hI n x2 (1 : Int32) μ) (cwV 2 hC.1.2.2.2.2 gX6_moves_X6_ofFlat rfl rfl rfl (by decide +kernel) ⟨Nat.le_of_ble_eq_true rfl, Nat.le_of_ble_eq_true rfl⟩) km0 rfl rfl rfl (Nat.le_of_ble_eq_true rfl) dX6_moves_18 (fun r18 m18 => ?_)
        refine hr_if_le (tgt := 28) hC dX6_moves_21 (by decide) (fun _ => ?_) (fun _ => ?_)
        · refine hr_iconst (v := 0) hC dX6_moves_28 (by decide) ?_
          refine hr_iadd hC dX6_moves_29 ?_
          refine hr_istore_n (lv' := [(1, .int (x1 + (0 : Int32))), (2, .int x2), (0, .ref (ad 0))]) hC dX6_moves_30 rfl (by decide) rfl ?_
          refine hr_iinc (v := (x2 + (1 : Int32))) (lv' := [(2, .int (x2 + (1 : Int32))), (1, .int (x1 + (0 : Int32))), (0, .ref (ad 0))]) (kx := 1) hC dX6_moves_31 rfl rfl (by decide) rfl ?_
          refine hr_goto (tgt := 4) hC dX6_moves_34 (by decide) ?_
          refine hr_sub (lv' := [(2, .int (x2 + (1 : Int32))), (1, .int (x1 + (0 : Int32))), (0, .ref (ad 0))]) [0, 1, 2] rfl ?_
          exact ih _ _ _
        · refine hr_iconst (v := 1) hC dX6_moves_24 (by decide) ?_
          refine hr_goto (tgt := 29) hC dX6_moves_25 (by decide) ?_
          refine hr_iadd hC dX6_moves_29 ?_
          refine hr_istore_n (lv' := [(1, .int (x1 + (1 : Int32))), (2, .int x2), (0, .ref (ad 0))]) hC dX6_moves_30 rfl (by decide) rfl ?_
          refine hr_iinc (v := (x2 + (1 : Int32))) (lv' := [(2, .int (x2 + (1 : Int32))), (1, .int (x1 + (1 : Int32))), (0, .ref (ad 0))]) (kx := 1) hC dX6_moves_31 rfl rfl (by decide) rfl ?_
          refine hr_goto (tgt := 4) hC dX6_moves_34 (by decide) ?_
          refine hr_sub (lv' := [(2, .int (x2 + (1 : Int32))), (1, .int (x1 + (1 : Int32))), (0, .ref (ad 0))]) [0, 1, 2] rfl ?_
          exact ih _ _ _
  rw [fX6_moves]
  refine hr_iconst (v := 0) hC dX6_moves_0 (by decide) ?_
  refine hr_istore_n (lv' := [(1, .int (0 : Int32)), (0, .ref (ad 0))]) hC dX6_moves_1 rfl (by decide) rfl ?_
  refine hr_iconst (v := 0) hC dX6_moves_2 (by decide) ?_
  refine hr_istore_n (lv' := [(2, .int (0 : Int32)), (1, .int (0 : Int32)), (0, .ref (ad 0))]) hC dX6_moves_3 rfl (by decide) rfl ?_
  refine hr_sub (lv' := [(2, .int (0 : Int32)), (1, .int (0 : Int32)), (0, .ref (ad 0))]) [0, 1, 2] rfl ?_
  refine L4 _ (fun x2_4 x1_4 m4 => ?_) _ _ _ _
  refine hr_iload_n hC dX6_moves_37 rfl 1 rfl ?_
  exact hr_ireti hC hr dX6_moves_38

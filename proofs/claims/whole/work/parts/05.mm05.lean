theorem hmX6_number_19 : Cond.fieldLink RX6 19 "HeatBillsModel" "text" "[C" ∈ wsX6_number := List.mem_of_getElem? (i := 1) rfl
theorem hmX6_number_146 : Cond.fieldLink RX6 146 "HeatBillsModel" "spot" "I" ∈ wsX6_number := List.mem_of_getElem? (i := 2) rfl
theorem hiX6_number_X6 : ∀ w ∈ wsX60, w ∈ wsX6_number := fun _ h => List.mem_cons_of_mem _ (List.mem_append_right _ h)
def lX6_number_37 (n : Nat) (p1 : Int32) (k : Int32 → hb_m → Option (Int32 × hb_m)) : Nat → Int32 → hb_m → Option (Int32 × hb_m)
  | 0, _, _ => none
  | f + 1, x2, μ => if x2 ≤ 0 then
(k x2 μ)
else
(bi (fX6_sees n (48 : Int32) (57 : Int32) μ) (fun r46 m46 =>
if r46 = 0 then
(k x2 m46)
else
(if ib (rd m46 0 13) 60 then
if p1 < ((((10 : Int32) * x2) + (rd m46 4 (rd m46 0 13).toNatClampNeg)) - (48 : Int32)) then
(k x2 m46)
else
(if ib (rd m46 0 13) 60 then
lX6_number_37 n p1 k f ((((10 : Int32) * x2) + (rd m46 4 (rd m46 0 13).toNatClampNeg)) - (48 : Int32)) (wr m46 0 13 ((rd m46 0 13) + (1 : Int32)))
else none)
else none)))
def fX6_number (n : Nat) (p1 : Int32) (μ : hb_m) : Option (Int32 × hb_m) :=
bi (fX6_sees n (48 : Int32) (57 : Int32) μ) (fun r5 m5 =>
if r5 = 0 then
(some ((-5 : Int32), m5))
else
(if ib (rd m5 0 13) 60 then
lX6_number_37 n p1 (fun x2_37 m37 =>
some (x2_37, m37)) n ((rd m5 4 (rd m5 0 13).toNatClampNeg) - (48 : Int32)) (wr m5 0 13 ((rd m5 0 13) + (1 : Int32)))
else none))
abbrev rmX6_number : Room := { frames := 2, cells := 0, slots := 0, locals := 44 }
set_option maxRecDepth 100000 in
set_option maxHeartbeats 4000000 in
theorem tX6_number {l : Launch} {D : va_G} {ad : Nat → Nat} {dA : Nat → ClassId} (hI : hb_I 12 ad) (n : Nat) (p1 : Int32) (μ : hb_m) : hb_M (hb_Qi vwCl kdM 12 ad D dA) l yX6_number wsX6_number rmX6_number vwCl kdM 12 ad D dA [] [] [.ref (ad 0), .int p1] μ (fX6_number n p1 μ) := by
  refine hb_start (cc := cX6_number) (maxL := 3) (ret := (some .int)) (by decide) rfl hI (Nat.le_of_ble_eq_true rfl) [(0, .ref (ad 0)), (1, .int p1)] rfl ?_
  intro p e s m args below meth c hC hr
  have L37 : ∀ (k : Int32 → hb_m → Option (Int32 × hb_m)) (hk : ∀ (x2 : Int32) (μ : hb_m), hb_V p l e rmX6_number s m args below meth c 3 vwCl kdM 12 ad D dA (hb_Qi vwCl kdM 12 ad D dA) μ 104 [(2, .int x2), (0, .ref (ad 0)), (1, .int p1)] [] (k x2 μ)) (f : Nat) (x2 : Int32) (μ : hb_m), hb_V p l e rmX6_number s m args below meth c 3 vwCl kdM 12 ad D dA (hb_Qi vwCl kdM 12 ad D dA) μ 37 [(2, .int x2), (0, .ref (ad 0)), (1, .int p1)] [] (lX6_number_37 n p1 k f x2 μ) := by
    intro k hk f
    induction f with
    | zero => intro x2 μ; rw [lX6_number_37]; exact hr_none
    | succ f ih =>
      intro x2 μ
      rw [lX6_number_37]
      refine hr_iload_n hC dX6_number_37 rfl 0 rfl ?_
      refine hr_if_le (tgt := 104) hC dX6_number_38 (by decide) (fun _ => ?_) (fun _ => ?_)
      · refine hr_sub (lv' := [(2, .int x2), (0, .ref (ad 0)), (1, .int p1)]) [0, 1, 2] rfl ?_
        exact hk _ _
      · refine hr_aload_n hC dX6_number_41 rfl 1 rfl ?_
        refine hr_bipush (v := 48) hC dX6_number_42 (by decide) ?_
        refine hr_bipush (v := 57) hC dX6_number_44 (by decide) ?_
        refine hr_callVi (As := [.int (48 : Int32), .int (57 : Int32)]) (k := 0) hC rfl (tX6_sees hI n (48 : Int32) (57 : Int32) μ) (cwV 2 hC.1.2.2.2.2 gX6_number_X6_sees rfl rfl rfl (by decide +kernel) ⟨Nat.le_of_ble_eq_true rfl, Nat.le_of_ble_eq_true rfl⟩) km0 rfl rfl rfl (Nat.le_of_ble_eq_true rfl) dX6_number_46 (fun r46 m46 => ?_)
        refine hr_if_eq (tgt := 104) hC dX6_number_49 (by decide) (fun _ => ?_) (fun _ => ?_)
        · refine hr_sub (lv' := [(2, .int x2), (0, .ref (ad 0)), (1, .int p1)]) [0, 1, 2] rfl ?_
          exact hk _ _
        · refine hr_bipush (v := 10) hC dX6_number_52 (by decide) ?_
          refine hr_iload_n hC dX6_number_54 rfl 0 rfl ?_
          refine hr_imul hC dX6_number_55 ?_
          refine hr_aload_n hC dX6_number_56 rfl 1 rfl ?_
          refine hr_getR hC hiX6_number_X6 rfl km0 5 (by decide) hmX6_number_19 rfl dX6_number_57 ?_
          refine hr_aload_n hC dX6_number_60 rfl 1 rfl ?_
          refine hr_getI hC hiX6_number_X6 rfl km0 13 (by decide) hmX6_number_146 rfl dX6_number_61 ?_
          refine hr_cald hC km4 dX6_number_64 ?_
          refine hr_iadd hC dX6_number_65 ?_
          refine hr_bipush (v := 48) hC dX6_number_66 (by decide) ?_
          refine hr_isub hC dX6_number_68 ?_
          refine hr_iload_n hC dX6_number_69 rfl 2 rfl ?_
          refine hr_icmp_gt (tgt := 104) hC dX6_number_70 (by decide) (fun _ => ?_) (fun _ => ?_)
          · refine hr_sub (lv' := [(2, .int x2), (0, .ref (ad 0)), (1, .int p1)]) [0, 1, 2] rfl ?_
            exact hk _ _
          · refine hr_bipush (v := 10) hC dX6_number_73 (by decide) ?_
            refine hr_iload_n hC dX6_number_75 rfl 0 rfl ?_
            refine hr_imul hC dX6_number_76 ?_
            refine hr_aload_n hC dX6_number_77 rfl 1 rfl ?_
            refine hr_getR hC hiX6_number_X6 rfl km0 5 (by decide) hmX6_number_19 rfl dX6_number_78 ?_
            refine hr_aload_n hC dX6_number_81 rfl 1 rfl ?_
            refine hr_getI hC hiX6_number_X6 rfl km0 13 (by decide) hmX6_number_146 rfl dX6_number_82 ?_
            refine hr_cald hC km4 dX6_number_85 ?_
            refine hr_iadd hC dX6_number_86 ?_
            refine hr_bipush (v := 48) hC dX6_number_87 (by decide) ?_
            refine hr_isub hC dX6_number_89 ?_
            refine hr_istore_n (lv' := [(2, .int ((((10 : Int32) * x2) + (rd m46 4 (rd m46 0 13).toNatClampNeg)) - (48 : Int32))), (0, .ref (ad 0)), (1, .int p1)]) hC dX6_number_90 rfl (by decide) rfl ?_
            refine hr_aload_n hC dX6_number_91 rfl 1 rfl ?_
            refine hr_dup hC dX6_number_92 rfl ?_
            refine hr_getI hC hiX6_number_X6 rfl km0 13 (by decide) hmX6_number_146 rfl dX6_number_93 ?_
            refine hr_iconst (v := 1) hC dX6_number_96 (by decide) ?_
            refine hr_iadd hC dX6_number_97 ?_
            refine hr_putI hC hiX6_number_X6 rfl km0 13 (by decide) hmX6_number_146 tyX6_ok nmX6 rfl rfl rfl rfl dX6_number_98 ?_
            refine hr_goto (tgt := 37) hC dX6_number_101 (by decide) ?_
            refine hr_sub (lv' := [(2, .int ((((10 : Int32) * x2) + (rd m46 4 (rd m46 0 13).toNatClampNeg)) - (48 : Int32))), (0, .ref (ad 0)), (1, .int p1)]) [0, 1, 2] rfl ?_
            exact ih _ _
  rw [fX6_number]
  refine hr_aload_n hC dX6_number_0 rfl 0 rfl ?_
  refine hr_bipush (v := 48) hC dX6_number_1 (by decide) ?_
  refine hr_bipush (v := 57) hC dX6_number_3 (by decide) ?_
  refine hr_callVi (As := [.int (48 : Int32), .int (57 : Int32)]) (k := 0) hC rfl (tX6_sees hI n (48 : Int32) (57 : Int32) μ) (cwV 2 hC.1.2.2.2.2 gX6_number_X6_sees rfl rfl rfl (by decide +kernel) ⟨Nat.le_of_ble_eq_true rfl, Nat.le_of_ble_eq_true rfl⟩) km0 rfl rfl rfl (Nat.le_of_ble_eq_true rfl) dX6_number_5 (fun r5 m5 => ?_)
  refine hr_if_ne (tgt := 14) hC dX6_number_8 (by decide) (fun _ => ?_) (fun _ => ?_)
  · refine hr_bipush (v := -5) hC dX6_number_11 (by decide) ?_
    exact hr_ireti hC hr dX6_number_13
  · refine hr_aload_n hC dX6_number_14 rfl 0 rfl ?_
    refine hr_getR hC hiX6_number_X6 rfl km0 5 (by decide) hmX6_number_19 rfl dX6_number_15 ?_
    refine hr_aload_n hC dX6_number_18 rfl 0 rfl ?_
    refine hr_getI hC hiX6_number_X6 rfl km0 13 (by decide) hmX6_number_146 rfl dX6_number_19 ?_
    refine hr_cald hC km4 dX6_number_22 ?_
    refine hr_bipush (v := 48) hC dX6_number_23 (by decide) ?_
    refine hr_isub hC dX6_number_25 ?_
    refine hr_istore_n (lv' := [(2, .int ((rd m5 4 (rd m5 0 13).toNatClampNeg) - (48 : Int32))), (0, .ref (ad 0)), (1, .int p1)]) hC dX6_number_26 rfl (by decide) rfl ?_
    refine hr_aload_n hC dX6_number_27 rfl 1 rfl ?_
    refine hr_dup hC dX6_number_28 rfl ?_
    refine hr_getI hC hiX6_number_X6 rfl km0 13 (by decide) hmX6_number_146 rfl dX6_number_29 ?_
    refine hr_iconst (v := 1) hC dX6_number_32 (by decide) ?_
    refine hr_iadd hC dX6_number_33 ?_
    refine hr_putI hC hiX6_number_X6 rfl km0 13 (by decide) hmX6_number_146 tyX6_ok nmX6 rfl rfl rfl rfl dX6_number_34 ?_
    refine hr_sub (lv' := [(2, .int ((rd m5 4 (rd m5 0 13).toNatClampNeg) - (48 : Int32))), (0, .ref (ad 0)), (1, .int p1)]) [0, 1, 2] rfl ?_
    refine L37 _ (fun x2_37 m37 => ?_) _ _ _
    refine hr_iload_n hC dX6_number_104 rfl 0 rfl ?_
    exact hr_ireti hC hr dX6_number_105
theorem hmX6_readsOne_42 : Cond.fieldLink RX6 42 "HeatBillsModel" "told" "[I" ∈ wsX6_readsOne := List.mem_of_getElem? (i := 1) rfl
theorem hmX6_readsOne_160 : Cond.fieldLink RX6 160 "HeatBillsModel" "tolds" "I" ∈ wsX6_readsOne := List.mem_of_getElem? (i := 2) rfl
theorem hiX6_readsOne_X6 : ∀ w ∈ wsX60, w ∈ wsX6_readsOne := fun _ h => List.mem_cons_of_mem _ (List.mem_append_right _ h)
def fX6_readsOne (n : Nat) (μ : hb_m) : Option (Int32 × hb_m) :=
bi (fX6_number n (19 : Int32) μ) (fun r3 m3 =>
if r3 = (-5 : Int32) then
(some ((0 : Int32), m3))
else
(bi (fX6_takes n (61 : Int32) m3) (fun r16 m16 =>
if r16 = 0 then
(some ((0 : Int32), m16))
else
(bi (fX6_takes n (63 : Int32) m16) (fun r27 m27 =>
if r27 = 0 then
(bi (fX6_number n (9999 : Int32) m27) (fun r44 m44 =>
if r27 = 0 then
(if r44 = (-5 : Int32) then
(some ((0 : Int32), m44))
else
(if ib ((2 : Int32) * (rd m44 0 15)) 64 then
if ib (((2 : Int32) * (rd (wr m44 11 ((2 : Int32) * (rd m44 0 15)).toNatClampNeg r3) 0 15)) + (1 : Int32)) 64 then
some ((1 : Int32), (wr (wr (wr m44 11 ((2 : Int32) * (rd m44 0 15)).toNatClampNeg r3) 11 (((2 : Int32) * (rd (wr m44 11 ((2 : Int32) * (rd m44 0 15)).toNatClampNeg r3) 0 15)) + (1 : Int32)).toNatClampNeg r44) 0 15 ((rd (wr (wr m44 11 ((2 : Int32) * (rd m44 0 15)).toNatClampNeg r3) 11 (((2 : Int32) * (rd (wr m44 11 ((2 : Int32) * (rd m44 0 15)).toNatClampNeg r3) 0 15)) + (1 : Int32)).toNatClampNeg r44) 0 15) + (1 : Int32))))
else none
else none))
else
(if ib ((2 : Int32) * (rd m44 0 15)) 64 then
if ib (((2 : Int32) * (rd (wr m44 11 ((2 : Int32) * (rd m44 0 15)).toNatClampNeg r3) 0 15)) + (1 : Int32)) 64 then
some ((1 : Int32), (wr (wr (wr m44 11 ((2 : Int32) * (rd m44 0 15)).toNatClampNeg r3) 11 (((2 : Int32) * (rd (wr m44 11 ((2 : Int32) * (rd m44 0 15)).toNatClampNeg r3) 0 15)) + (1 : Int32)).toNatClampNeg r44) 0 15 ((rd (wr (wr m44 11 ((2 : Int32) * (rd m44 0 15)).toNatClampNeg r3) 11 (((2 : Int32) * (rd (wr m44 11 ((2 : Int32) * (rd m44 0 15)).toNatClampNeg r3) 0 15)) + (1 : Int32)).toNatClampNeg r44) 0 15) + (1 : Int32))))
else none
else none)))
else
(if r27 = 0 then
(if (-5 : Int32) = (-5 : Int32) then
(some ((0 : Int32), m27))
else
(if ib ((2 : Int32) * (rd m27 0 15)) 64 then
if ib (((2 : Int32) * (rd (wr m27 11 ((2 : Int32) * (rd m27 0 15)).toNatClampNeg r3) 0 15)) + (1 : Int32)) 64 then
some ((1 : Int32), (wr (wr (wr m27 11 ((2 : Int32) * (rd m27 0 15)).toNatClampNeg r3) 11 (((2 : Int32) * (rd (wr m27 11 ((2 : Int32) * (rd m27 0 15)).toNatClampNeg r3) 0 15)) + (1 : Int32)).toNatClampNeg (-5 : Int32)) 0 15 ((rd (wr (wr m27 11 ((2 : Int32) * (rd m27 0 15)).toNatClampNeg r3) 11 (((2 : Int32) * (rd (wr m27 11 ((2 : Int32) * (rd m27 0 15)).toNatClampNeg r3) 0 15)) + (1 : Int32)).toNatClampNeg (-5 : Int32)) 0 15) + (1 : Int32))))
else none
else none))
else
(if ib ((2 : Int32) * (rd m27 0 15)) 64 then
if ib (((2 : Int32) * (rd (wr m27 11 ((2 : Int32) * (rd m27 0 15)).toNatClampNeg r3) 0 15)) + (1 : Int32)) 64 then
some ((1 : Int32), (wr (wr (wr m27 11 ((2 : Int32) * (rd m27 0 15)).toNatClampNeg r3) 11 (((2 : Int32) * (rd (wr m27 11 ((2 : Int32) * (rd m27 0 15)).toNatClampNeg r3) 0 15)) + (1 : Int32)).toNatClampNeg (-5 : Int32)) 0 15 ((rd (wr (wr m27 11 ((2 : Int32) * (rd m27 0 15)).toNatClampNeg r3) 11 (((2 : Int32) * (rd (wr m27 11 ((2 : Int32) * (rd m27 0 15)).toNatClampNeg r3) 0 15)) + (1 : Int32)).toNatClampNeg (-5 : Int32)) 0 15) + (1 : Int32))))
else none
else none)))))))
abbrev rmX6_readsOne : Room := { frames := 3, cells := 0, slots := 0, locals := 66 }
set_option maxRecDepth 100000 in
set_option maxHeartbeats 4000000 in
theorem tX6_readsOne {l : Launch} {D : va_G} {ad : Nat → Nat} {dA : Nat → ClassId} (hI : hb_I 12 ad) (n : Nat) (μ : hb_m) : hb_M (hb_Qi vwCl kdM 12 ad D dA) l yX6_readsOne wsX6_readsOne rmX6_readsOne vwCl kdM 12 ad D dA [] [] [.ref (ad 0)] μ (fX6_readsOne n μ) := by
  refine hb_start (cc := cX6_readsOne) (maxL := 4) (ret := (some .boolean)) (by decide) rfl hI (Nat.le_of_ble_eq_true rfl) [(0, .ref (ad 0))] rfl ?_
  intro p e s m args below meth c hC hr
  rw [fX6_readsOne]
  refine hr_aload_n hC dX6_readsOne_0 rfl 0 rfl ?_
  refine hr_bipush (v := 19) hC dX6_readsOne_1 (by decide) ?_
  refine hr_callVi (As := [.int (19 : Int32)]) (k := 0) hC rfl (tX6_number hI n (19 : Int32) μ) (cwV 1 hC.1.2.2.2.2 gX6_readsOne_X6_number rfl rfl rfl (by decide +kernel) ⟨Nat.le_of_ble_eq_true rfl, Nat.le_of_ble_eq_true rfl⟩) km0 rfl rfl rfl (Nat.le_of_ble_eq_true rfl) dX6_readsOne_3 (fun r3 m3 => ?_)
  refine hr_istore_n (lv' := [(1, .int r3), (0, .ref (ad 0))]) hC dX6_readsOne_6 rfl (by decide) rfl ?_
  refine hr_iload_n hC dX6_readsOne_7 rfl 0 rfl ?_
  refine hr_bipush (v := -5) hC dX6_readsOne_8 (by decide) ?_
  refine hr_icmp_eq (tgt := 22) hC dX6_readsOne_10 (by decide) (fun _ => ?_) (fun _ => ?_)
  · refine hr_iconst (v := 0) hC dX6_readsOne_22 (by decide) ?_
    exact hr_iretz hC hr dX6_readsOne_23 rfl
  · refine hr_aload_n hC dX6_readsOne_13 rfl 1 rfl ?_
    refine hr_bipush (v := 61) hC dX6_readsOne_14 (by decide) ?_
    refine hr_callVi (As := [.int (61 : Int32)]) (k := 0) hC rfl (tX6_takes hI n (61 : Int32) m3) (cwV 1 hC.1.2.2.2.2 gX6_readsOne_X6_takes rfl rfl rfl (by decide +kernel) ⟨Nat.le_of_ble_eq_true rfl, Nat.le_of_ble_eq_true rfl⟩) km0 rfl rfl rfl (Nat.le_of_ble_eq_true rfl) dX6_readsOne_16 (fun r16 m16 => ?_)
    refine hr_if_ne (tgt := 24) hC dX6_readsOne_19 (by decide) (fun _ => ?_) (fun _ => ?_)
    · refine hr_iconst (v := 0) hC dX6_readsOne_22 (by decide) ?_
      exact hr_iretz hC hr dX6_readsOne_23 rfl
    · refine hr_aload_n hC dX6_readsOne_24 rfl 1 rfl ?_
      refine hr_bipush (v := 63) hC dX6_readsOne_25 (by decide) ?_
      refine hr_callVi (As := [.int (63 : Int32)]) (k := 0) hC rfl (tX6_takes hI n (63 : Int32) m16) (cwV 1 hC.1.2.2.2.2 gX6_readsOne_X6_takes rfl rfl rfl (by decide +kernel) ⟨Nat.le_of_ble_eq_true rfl, Nat.le_of_ble_eq_true rfl⟩) km0 rfl rfl rfl (Nat.le_of_ble_eq_true rfl) dX6_readsOne_27 (fun r27 m27 => ?_)
      refine hr_istore_n (lv' := [(2, .int r27), (1, .int r3), (0, .ref (ad 0))]) hC dX6_readsOne_30 rfl (by decide) rfl ?_
      refine hr_iload_n hC dX6_readsOne_31 rfl 0 rfl ?_
      refine hr_if_eq (tgt := 40) hC dX6_readsOne_32 (by decide) (fun _ => ?_) (fun _ => ?_)
      · refine hr_aload_n hC dX6_readsOne_40 rfl 2 rfl ?_
        refine hr_sipush (v := 9999) hC dX6_readsOne_41 (by decide) ?_
        refine hr_callVi (As := [.int (9999 : Int32)]) (k := 0) hC rfl (tX6_number hI n (9999 : Int32) m27) (cwV 1 hC.1.2.2.2.2 gX6_readsOne_X6_number rfl rfl rfl (by decide +kernel) ⟨Nat.le_of_ble_eq_true rfl, Nat.le_of_ble_eq_true rfl⟩) km0 rfl rfl rfl (Nat.le_of_ble_eq_true rfl) dX6_readsOne_44 (fun r44 m44 => ?_)
        refine hr_istore_n (lv' := [(3, .int r44), (2, .int r27), (1, .int r3), (0, .ref (ad 0))]) hC dX6_readsOne_47 rfl (by decide) rfl ?_
        refine hr_iload_n hC dX6_readsOne_48 rfl 1 rfl ?_
        refine hr_if_ne (tgt := 60) hC dX6_readsOne_49 (by decide) (fun _ => ?_) (fun _ => ?_)
        · refine hr_iload_n hC dX6_readsOne_52 rfl 0 rfl ?_
          refine hr_bipush (v := -5) hC dX6_readsOne_53 (by decide) ?_
          refine hr_icmp_ne (tgt := 60) hC dX6_readsOne_55 (by decide) (fun _ => ?_) (fun _ => ?_)
          · refine hr_iconst (v := 0) hC dX6_readsOne_58 (by decide) ?_
            exact hr_iretz hC hr dX6_readsOne_59 rfl
          · refine hr_aload_n hC dX6_readsOne_60 rfl 3 rfl ?_
            refine hr_getR hC hiX6_readsOne_X6 rfl km0 14 (by decide) hmX6_readsOne_42 rfl dX6_readsOne_61 ?_
            refine hr_iconst (v := 2) hC dX6_readsOne_64 (by decide) ?_
            refine hr_aload_n hC dX6_readsOne_65 rfl 3 rfl ?_
            refine hr_getI hC hiX6_readsOne_X6 rfl km0 15 (by decide) hmX6_readsOne_160 rfl dX6_readsOne_66 ?_
            refine hr_imul hC dX6_readsOne_69 ?_
            refine hr_iload_n hC dX6_readsOne_70 rfl 2 rfl ?_
            refine hr_iast hC km11 dX6_readsOne_71 ?_
            refine hr_aload_n hC dX6_readsOne_72 rfl 3 rfl ?_
            refine hr_getR hC hiX6_readsOne_X6 rfl km0 14 (by decide) hmX6_readsOne_42 rfl dX6_readsOne_73 ?_
            refine hr_iconst (v := 2) hC dX6_readsOne_76 (by decide) ?_
            refine hr_aload_n hC dX6_readsOne_77 rfl 3 rfl ?_
            refine hr_getI hC hiX6_readsOne_X6 rfl km0 15 (by decide) hmX6_readsOne_160 rfl dX6_readsOne_78 ?_
            refine hr_imul hC dX6_readsOne_81 ?_
            refine hr_iconst (v := 1) hC dX6_readsOne_82 (by decide) ?_
            refine hr_iadd hC dX6_readsOne_83 ?_
            refine hr_iload_n hC dX6_readsOne_84 rfl 0 rfl ?_
            refine hr_iast hC km11 dX6_readsOne_85 ?_
            refine hr_aload_n hC dX6_readsOne_86 rfl 3 rfl ?_
            refine hr_dup hC dX6_readsOne_87 rfl ?_
            refine hr_getI hC hiX6_readsOne_X6 rfl km0 15 (by decide) hmX6_readsOne_160 rfl dX6_readsOne_88 ?_
            refine hr_iconst (v := 1) hC dX6_readsOne_91 (by decide) ?_
            refine hr_iadd hC dX6_readsOne_92 ?_
            refine hr_putI hC hiX6_readsOne_X6 rfl km0 15 (by decide) hmX6_readsOne_160 tyX6_ok nmX6 rfl rfl rfl rfl dX6_readsOne_93 ?_
            refine hr_iconst (v := 1) hC dX6_readsOne_96 (by decide) ?_
            exact hr_iretz hC hr dX6_readsOne_97 rfl
        · refine hr_aload_n hC dX6_readsOne_60 rfl 3 rfl ?_
          refine hr_getR hC hiX6_readsOne_X6 rfl km0 14 (by decide) hmX6_readsOne_42 rfl dX6_readsOne_61 ?_
          refine hr_iconst (v := 2) hC dX6_readsOne_64 (by decide) ?_
          refine hr_aload_n hC dX6_readsOne_65 rfl 3 rfl ?_
          refine hr_getI hC hiX6_readsOne_X6 rfl km0 15 (by decide) hmX6_readsOne_160 rfl dX6_readsOne_66 ?_
          refine hr_imul hC dX6_readsOne_69 ?_
          refine hr_iload_n hC dX6_readsOne_70 rfl 2 rfl ?_
          refine hr_iast hC km11 dX6_readsOne_71 ?_
          refine hr_aload_n hC dX6_readsOne_72 rfl 3 rfl ?_
          refine hr_getR hC hiX6_readsOne_X6 rfl km0 14 (by decide) hmX6_readsOne_42 rfl dX6_readsOne_73 ?_
          refine hr_iconst (v := 2) hC dX6_readsOne_76 (by decide) ?_
          refine hr_aload_n hC dX6_readsOne_77 rfl 3 rfl ?_
          refine hr_getI hC hiX6_readsOne_X6 rfl km0 15 (by decide) hmX6_readsOne_160 rfl dX6_readsOne_78 ?_
          refine hr_imul hC dX6_readsOne_81 ?_
          refine hr_iconst (v := 1) hC dX6_readsOne_82 (by decide) ?_
          refine hr_iadd hC dX6_readsOne_83 ?_
          refine hr_iload_n hC dX6_readsOne_84 rfl 0 rfl ?_
          refine hr_iast hC km11 dX6_readsOne_85 ?_
          refine hr_aload_n hC dX6_readsOne_86 rfl 3 rfl ?_
          refine hr_dup hC dX6_readsOne_87 rfl ?_
          refine hr_getI hC hiX6_readsOne_X6 rfl km0 15 (by decide) hmX6_readsOne_160 rfl dX6_readsOne_88 ?_
          refine hr_iconst (v := 1) hC dX6_readsOne_91 (by decide) ?_
          refine hr_iadd hC dX6_readsOne_92 ?_
          refine hr_putI hC hiX6_readsOne_X6 rfl km0 15 (by decide) hmX6_readsOne_160 tyX6_ok nmX6 rfl rfl rfl rfl dX6_readsOne_93 ?_
          refine hr_iconst (v := 1) hC dX6_readsOne_96 (by decide) ?_
          exact hr_iretz hC hr dX6_readsOne_97 rfl
      · refine hr_bipush (v := -5) hC dX6_readsOne_35 (by decide) ?_
        refine hr_goto (tgt := 47) hC dX6_readsOne_37 (by decide) ?_
        refine hr_istore_n (lv' := [(3, .int (-5 : Int32)), (2, .int r27), (1, .int r3), (0, .ref (ad 0))]) hC dX6_readsOne_47 rfl (by decide) rfl ?_
        refine hr_iload_n hC dX6_readsOne_48 rfl 1 rfl ?_
        refine hr_if_ne (tgt := 60) hC dX6_readsOne_49 (by decide) (fun _ => ?_) (fun _ => ?_)
        · refine hr_iload_n hC dX6_readsOne_52 rfl 0 rfl ?_
          refine hr_bipush (v := -5) hC dX6_readsOne_53 (by decide) ?_
          refine hr_icmp_ne (tgt := 60) hC dX6_readsOne_55 (by decide) (fun _ => ?_) (fun _ => ?_)
          · refine hr_iconst (v := 0) hC dX6_readsOne_58 (by decide) ?_
            exact hr_iretz hC hr dX6_readsOne_59 rfl
          · refine hr_aload_n hC dX6_readsOne_60 rfl 3 rfl ?_
            refine hr_getR hC hiX6_readsOne_X6 rfl km0 14 (by decide) hmX6_readsOne_42 rfl dX6_readsOne_61 ?_
            refine hr_iconst (v := 2) hC dX6_readsOne_64 (by decide) ?_
            refine hr_aload_n hC dX6_readsOne_65 rfl 3 rfl ?_
            refine hr_getI hC hiX6_readsOne_X6 rfl km0 15 (by decide) hmX6_readsOne_160 rfl dX6_readsOne_66 ?_
            refine hr_imul hC dX6_readsOne_69 ?_
            refine hr_iload_n hC dX6_readsOne_70 rfl 2 rfl ?_
            refine hr_iast hC km11 dX6_readsOne_71 ?_
            refine hr_aload_n hC dX6_readsOne_72 rfl 3 rfl ?_
            refine hr_getR hC hiX6_readsOne_X6 rfl km0 14 (by decide) hmX6_readsOne_42 rfl dX6_readsOne_73 ?_
            refine hr_iconst (v := 2) hC dX6_readsOne_76 (by decide) ?_
            refine hr_aload_n hC dX6_readsOne_77 rfl 3 rfl ?_
            refine hr_getI hC hiX6_readsOne_X6 rfl km0 15 (by decide) hmX6_readsOne_160 rfl dX6_readsOne_78 ?_
            refine hr_imul hC dX6_readsOne_81 ?_
            refine hr_iconst (v := 1) hC dX6_readsOne_82 (by decide) ?_
            refine hr_iadd hC dX6_readsOne_83 ?_
            refine hr_iload_n hC dX6_readsOne_84 rfl 0 rfl ?_
            refine hr_iast hC km11 dX6_readsOne_85 ?_
            refine hr_aload_n hC dX6_readsOne_86 rfl 3 rfl ?_
            refine hr_dup hC dX6_readsOne_87 rfl ?_
            refine hr_getI hC hiX6_readsOne_X6 rfl km0 15 (by decide) hmX6_readsOne_160 rfl dX6_readsOne_88 ?_
            refine hr_iconst (v := 1) hC dX6_readsOne_91 (by decide) ?_
            refine hr_iadd hC dX6_readsOne_92 ?_
            refine hr_putI hC hiX6_readsOne_X6 rfl km0 15 (by decide) hmX6_readsOne_160 tyX6_ok nmX6 rfl rfl rfl rfl dX6_readsOne_93 ?_
            refine hr_iconst (v := 1) hC dX6_readsOne_96 (by decide) ?_
            exact hr_iretz hC hr dX6_readsOne_97 rfl
        · refine hr_aload_n hC dX6_readsOne_60 rfl 3 rfl ?_
          refine hr_getR hC hiX6_readsOne_X6 rfl km0 14 (by decide) hmX6_readsOne_42 rfl dX6_readsOne_61 ?_
          refine hr_iconst (v := 2) hC dX6_readsOne_64 (by decide) ?_
          refine hr_aload_n hC dX6_readsOne_65 rfl 3 rfl ?_
          refine hr_getI hC hiX6_readsOne_X6 rfl km0 15 (by decide) hmX6_readsOne_160 rfl dX6_readsOne_66 ?_
          refine hr_imul hC dX6_readsOne_69 ?_
          refine hr_iload_n hC dX6_readsOne_70 rfl 2 rfl ?_
          refine hr_iast hC km11 dX6_readsOne_71 ?_
          refine hr_aload_n hC dX6_readsOne_72 rfl 3 rfl ?_
          refine hr_getR hC hiX6_readsOne_X6 rfl km0 14 (by decide) hmX6_readsOne_42 rfl dX6_readsOne_73 ?_
          refine hr_iconst (v := 2) hC dX6_readsOne_76 (by decide) ?_
          refine hr_aload_n hC dX6_readsOne_77 rfl 3 rfl ?_
          refine hr_getI hC hiX6_readsOne_X6 rfl km0 15 (by decide) hmX6_readsOne_160 rfl dX6_readsOne_78 ?_
          refine hr_imul hC dX6_readsOne_81 ?_
          refine hr_iconst (v := 1) hC dX6_readsOne_82 (by decide) ?_
          refine hr_iadd hC dX6_readsOne_83 ?_
          refine hr_iload_n hC dX6_readsOne_84 rfl 0 rfl ?_
          refine hr_iast hC km11 dX6_readsOne_85 ?_
          refine hr_aload_n hC dX6_readsOne_86 rfl 3 rfl ?_
          refine hr_dup hC dX6_readsOne_87 rfl ?_
          refine hr_getI hC hiX6_readsOne_X6 rfl km0 15 (by decide) hmX6_readsOne_160 rfl dX6_readsOne_88 ?_
          refine hr_iconst (v := 1) hC dX6_readsOne_91 (by decide) ?_
          refine hr_iadd hC dX6_readsOne_92 ?_
          refine hr_putI hC hiX6_readsOne_X6 rfl km0 15 (by decide) hmX6_readsOne_160 tyX6_ok nmX6 rfl rfl rfl rfl dX6_readsOne_93 ?_
          refine hr_iconst (v := 1) hC dX6_readsOne_96 (by decide) ?_
          exact hr_iretz hC hr dX6_readsOne_97 rfl
theorem hmX6_isText_146 : Cond.fieldLink RX6 146 "HeatBillsModel" "spot" "I" ∈ wsX6_isText := List.mem_of_getElem? (i := 1) rfl
theorem hmX6_isText_160 : Cond.fieldLink RX6 160 "HeatBillsModel" "tolds" "I" ∈ wsX6_isText := List.mem_of_getElem? (i := 2) rfl
theorem hmX6_isText_143 : Cond.fieldLink RX6 143 "HeatBillsModel" "length" "I" ∈ wsX6_isText := List.mem_of_getElem? (i := 3) rfl
theorem hiX6_isText_X6 : ∀ w ∈ wsX60, w ∈ wsX6_isText := fun _ h => List.mem_cons_of_mem _ (List.mem_append_right _ h)
def lX6_isText_12 (n : Nat) (k : Int32 → hb_m → Option (Int32 × hb_m)) : Nat → Int32 → hb_m → Option (Int32 × hb_m)
  | 0, _, _ => none
  | f + 1, x1, μ => if x1 = 0 then
(k x1 μ)
else
(bi (fX6_readsOne n μ) (fun r17 m17 =>
if r17 = 0 then
(some ((0 : Int32), m17))
else
(bi (fX6_takes n (59 : Int32) m17) (fun r28 m28 =>
lX6_isText_12 n k f r28 m28))))
def fX6_isText (n : Nat) (μ : hb_m) : Option (Int32 × hb_m) :=
lX6_isText_12 n (fun x1_12 m12 =>
if (rd m12 0 13) = (rd m12 0 6) then
(some ((1 : Int32), m12))
else
(some ((0 : Int32), m12))) n (1 : Int32) (wr (wr μ 0 13 (0 : Int32)) 0 15 (0 : Int32))
abbrev rmX6_isText : Room := { frames := 4, cells := 0, slots := 0, locals := 89 }
set_option maxRecDepth 100000 in
set_option maxHeartbeats 4000000 in
theorem tX6_isText {l : Launch} {D : va_G} {ad : Nat → Nat} {dA : Nat → ClassId} (hI : hb_I 12 ad) (n : Nat) (μ : hb_m) : hb_M (hb_Qi vwCl kdM 12 ad D dA) l yX6_isText wsX6_isText rmX6_isText vwCl kdM 12 ad D dA [] [] [.ref (ad 0)] μ (fX6_isText n μ) := by
  refine hb_start (cc := cX6_isText) (maxL := 2) (ret := (some .boolean)) (by decide) rfl hI (Nat.le_of_ble_eq_true rfl) [(0, .ref (ad 0))] rfl ?_
  intro p e s m args below meth c hC hr
  have L12 : ∀ (k : Int32 → hb_m → Option (Int32 × hb_m)) (hk : ∀ (x1 : Int32) (μ : hb_m), hb_V p l e rmX6_isText s m args below meth c 2 vwCl kdM 12 ad D dA (hb_Qi vwCl kdM 12 ad D dA) μ 35 [(1, .int x1), (0, .ref (ad 0))] [] (k x1 μ)) (f : Nat) (x1 : Int32) (μ : hb_m), hb_V p l e rmX6_isText s m args below meth c 2 vwCl kdM 12 ad D dA (hb_Qi vwCl kdM 12 ad D dA) μ 12 [(1, .int x1), (0, .ref (ad 0))] [] (lX6_isText_12 n k f x1 μ) := by
    intro k hk f
    induction f with
    | zero => intro x1 μ; rw [lX6_isText_12]; exact hr_none
    | succ f ih =>
      intro x1 μ
      rw [lX6_isText_12]
      refine hr_iload_n hC dX6_isText_12 rfl 0 rfl ?_
      refine hr_if_eq (tgt := 35) hC dX6_isText_13 (by decide) (fun _ => ?_) (fun _ => ?_)
      · refine hr_sub (lv' := [(1, .int x1), (0, .ref (ad 0))]) [0, 1] rfl ?_
        exact hk _ _
      · refine hr_aload_n hC dX6_isText_16 rfl 1 rfl ?_
        refine hr_callVi (As := []) (k := 0) hC rfl (tX6_readsOne hI n μ) (cwV 0 hC.1.2.2.2.2 gX6_isText_X6_readsOne rfl rfl rfl (by decide +kernel) ⟨Nat.le_of_ble_eq_true rfl, Nat.le_of_ble_eq_true rfl⟩) km0 rfl rfl rfl (Nat.le_of_ble_eq_true rfl) dX6_isText_17 (fun r17 m17 => ?_)
        refine hr_if_ne (tgt := 25) hC dX6_isText_20 (by decide) (fun _ => ?_) (fun _ => ?_)
        · refine hr_iconst (v := 0) hC dX6_isText_23 (by decide) ?_
          exact hr_iretz hC hr dX6_isText_24 rfl
        · refine hr_aload_n hC dX6_isText_25 rfl 1 rfl ?_
          refine hr_bipush (v := 59) hC dX6_isText_26 (by decide) ?_
          refine hr_callVi (As := [.int (59 : Int32)]) (k := 0) hC rfl (tX6_takes hI n (59 : Int32) m17) (cwV 1 hC.1.2.2.2.2 gX6_isText_X6_takes rfl rfl rfl (by decide +kernel) ⟨Nat.le_of_ble_eq_true rfl, Nat.le_of_ble_eq_true rfl⟩) km0 rfl rfl rfl (Nat.le_of_ble_eq_true rfl) dX6_isText_28 (fun r28 m28 => ?_)
          refine hr_istore_n (lv' := [(1, .int r28), (0, .ref (ad 0))]) hC dX6_isText_31 rfl (by decide) rfl ?_
          refine hr_goto (tgt := 12) hC dX6_isText_32 (by decide) ?_
          refine hr_sub (lv' := [(1, .int r28), (0, .ref (ad 0))]) [0, 1] rfl ?_
          exact ih _ _
  rw [fX6_isText]
  refine hr_aload_n hC dX6_isText_0 rfl 0 rfl ?_
  refine hr_iconst (v := 0) hC dX6_isText_1 (by decide) ?_
  refine hr_putI hC hiX6_isText_X6 rfl km0 13 (by decide) hmX6_isText_146 tyX6_ok nmX6 rfl rfl rfl rfl dX6_isText_2 ?_
  refine hr_aload_n hC dX6_isText_5 rfl 0 rfl ?_
  refine hr_iconst (v := 0) hC dX6_isText_6 (by decide) ?_
  refine hr_putI hC hiX6_isText_X6 rfl km0 15 (by decide) hmX6_isText_160 tyX6_ok nmX6 rfl rfl rfl rfl dX6_isText_7 ?_
  refine hr_iconst (v := 1) hC dX6_isText_10 (by decide) ?_
  refine hr_istore_n (lv' := [(1, .int (1 : Int32)), (0, .ref (ad 0))]) hC dX6_isText_11 rfl (by decide) rfl ?_
  refine hr_sub (lv' := [(1, .int (1 : Int32)), (0, .ref (ad 0))]) [0, 1] rfl ?_
  refine L12 _ (fun x1_12 m12 => ?_) _ _ _
  refine hr_aload_n hC dX6_isText_35 rfl 1 rfl ?_
  refine hr_getI hC hiX6_isText_X6 rfl km0 13 (by decide) hmX6_isText_146 rfl dX6_isText_36 ?_
  refine hr_aload_n hC dX6_isText_39 rfl 1 rfl ?_
  refine hr_getI hC hiX6_isText_X6 rfl km0 6 (by decide) hmX6_isText_143 rfl dX6_isText_40 ?_
  refine hr_icmp_ne (tgt := 50) hC dX6_isText_43 (by decide) (fun _ => ?_) (fun _ => ?_)
  · refine hr_iconst (v := 1) hC dX6_isText_46 (by decide) ?_
    refine hr_goto (tgt := 51) hC dX6_isText_47 (by decide) ?_
    exact hr_iretz hC hr dX6_isText_51 rfl
  · refine hr_iconst (v := 0) hC dX6_isText_50 (by decide) ?_
    exact hr_iretz hC hr dX6_isText_51 rfl
theorem hmX6_refusal_160 : Cond.fieldLink RX6 160 "HeatBillsModel" "tolds" "I" ∈ wsX6_refusal := List.mem_of_getElem? (i := 1) rfl
theorem hmX6_refusal_42 : Cond.fieldLink RX6 42 "HeatBillsModel" "told" "[I" ∈ wsX6_refusal := List.mem_of_getElem? (i := 2) rfl
theorem hiX6_refusal_X6 : ∀ w ∈ wsX60, w ∈ wsX6_refusal := fun _ h => List.mem_cons_of_mem _ (List.mem_append_right _ h)
def lX6_refusal_6 (n : Nat) (k : Int32 → Int32 → Int32 → hb_m → Option (Int32 × hb_m)) : Nat → Int32 → Int32 → Int32 → hb_m → Option (Int32 × hb_m)
  | 0, _, _, _, _ => none
  | f + 1, x3, x2, x1, μ => if (rd μ 0 15) ≤ x3 then
(k x3 x2 x1 μ)
else
(if ib ((2 : Int32) * x3) 64 then
bi (fX6_isDevice n (rd μ 11 ((2 : Int32) * x3).toNatClampNeg) μ) (fun r23 m23 =>
if x1 = 0 then
(if x2 = 0 then
(lX6_refusal_6 n k f (x3 + (1 : Int32)) (0 : Int32) (0 : Int32) m23)
else
(if r23 = 0 then
(lX6_refusal_6 n k f (x3 + (1 : Int32)) (1 : Int32) (0 : Int32) m23)
else
(if ib (((2 : Int32) * x3) + (1 : Int32)) 64 then
if (rd m23 11 (((2 : Int32) * x3) + (1 : Int32)).toNatClampNeg) = (-5 : Int32) then
(lX6_refusal_6 n k f (x3 + (1 : Int32)) (1 : Int32) (0 : Int32) m23)
else
(if ib (((2 : Int32) * x3) + (1 : Int32)) 64 then
if ib ((2 : Int32) * x3) 64 then
bi (fX6_of n (rd m23 11 ((2 : Int32) * x3).toNatClampNeg) (2 : Int32) m23) (fun r87 m87 =>
if (rd m23 11 (((2 : Int32) * x3) + (1 : Int32)).toNatClampNeg) < r87 then
(lX6_refusal_6 n k f (x3 + (1 : Int32)) (0 : Int32) (0 : Int32) m87)
else
(lX6_refusal_6 n k f (x3 + (1 : Int32)) (1 : Int32) (0 : Int32) m87))
else none
else none)
else none)))
else
(if r23 = 0 then
(if x2 = 0 then
(lX6_refusal_6 n k f (x3 + (1 : Int32)) (0 : Int32) (0 : Int32) m23)
else
(if r23 = 0 then
(lX6_refusal_6 n k f (x3 + (1 : Int32)) (1 : Int32) (0 : Int32) m23)
else
(if ib (((2 : Int32) * x3) + (1 : Int32)) 64 then
if (rd m23 11 (((2 : Int32) * x3) + (1 : Int32)).toNatClampNeg) = (-5 : Int32) then
(lX6_refusal_6 n k f (x3 + (1 : Int32)) (1 : Int32) (0 : Int32) m23)
else
(if ib (((2 : Int32) * x3) + (1 : Int32)) 64 then
if ib ((2 : Int32) * x3) 64 then
bi (fX6_of n (rd m23 11 ((2 : Int32) * x3).toNatClampNeg) (2 : Int32) m23) (fun r87 m87 =>
if (rd m23 11 (((2 : Int32) * x3) + (1 : Int32)).toNatClampNeg) < r87 then
(lX6_refusal_6 n k f (x3 + (1 : Int32)) (0 : Int32) (0 : Int32) m87)
else
(lX6_refusal_6 n k f (x3 + (1 : Int32)) (1 : Int32) (0 : Int32) m87))
else none
else none)
else none)))
else
(if x2 = 0 then
(lX6_refusal_6 n k f (x3 + (1 : Int32)) (0 : Int32) (1 : Int32) m23)
else
(if r23 = 0 then
(lX6_refusal_6 n k f (x3 + (1 : Int32)) (1 : Int32) (1 : Int32) m23)
else
(if ib (((2 : Int32) * x3) + (1 : Int32)) 64 then
if (rd m23 11 (((2 : Int32) * x3) + (1 : Int32)).toNatClampNeg) = (-5 : Int32) then
(lX6_refusal_6 n k f (x3 + (1 : Int32)) (1 : Int32) (1 : Int32) m23)
else
(if ib (((2 : Int32) * x3) + (1 : Int32)) 64 then
if ib ((2 : Int32) * x3) 64 then
bi (fX6_of n (rd m23 11 ((2 : Int32) * x3).toNatClampNeg) (2 : Int32) m23) (fun r87 m87 =>
if (rd m23 11 (((2 : Int32) * x3) + (1 : Int32)).toNatClampNeg) < r87 then
(lX6_refusal_6 n k f (x3 + (1 : Int32)) (0 : Int32) (1 : Int32) m87)
else
(lX6_refusal_6 n k f (x3 + (1 : Int32)) (1 : Int32) (1 : Int32) m87))
else none
else none)
else none)))))
else none)
def fX6_refusal (n : Nat) (μ : hb_m) : Option (Int32 × hb_m) :=
lX6_refusal_6 n (fun x3_6 x2_6 x1_6 m6 =>
if x1_6 = 0 then
(some ((-1 : Int32), m6))
else
(if x2_6 = 0 then
(some ((-4 : Int32), m6))
else
(some ((0 : Int32), m6)))) n (0 : Int32) (1 : Int32) (1 : Int32) μ
abbrev rmX6_refusal : Room := { frames := 2, cells := 0, slots := 0, locals := 43 }
set_option maxRecDepth 100000 in
set_option maxHeartbeats 4000000 in
theorem tX6_refusal {l : Launch} {D : va_G} {ad : Nat → Nat} {dA : Nat → ClassId} (hI : hb_I 12 ad) (n : Nat) (μ : hb_m) : hb_M (hb_Qi vwCl kdM 12 ad D dA) l yX6_refusal wsX6_refusal rmX6_refusal vwCl kdM 12 ad D dA [] [] [.ref (ad 0)] μ (fX6_refusal n μ) := by
  refine hb_start (cc := cX6_refusal) (maxL := 5) (ret := (some .int)) (by decide) rfl hI (Nat.le_of_ble_eq_true rfl) [(0, .ref (ad 0))] rfl ?_
  intro p e s m args below meth c hC hr
  have L6 : ∀ (k : Int32 → Int32 → Int32 → hb_m → Option (Int32 × hb_m)) (hk : ∀ (x3 : Int32) (x2 : Int32) (x1 : Int32) (μ : hb_m), hb_V p l e rmX6_refusal s m args below meth c 5 vwCl kdM 12 ad D dA (hb_Qi vwCl kdM 12 ad D dA) μ 105 [(3, .int x3), (2, .int x2), (1, .int x1), (0, .ref (ad 0))] [] (k x3 x2 x1 μ)) (f : Nat) (x3 : Int32) (x2 : Int32) (x1 : Int32) (μ : hb_m), hb_V p l e rmX6_refusal s m args below meth c 5 vwCl kdM 12 ad D dA (hb_Qi vwCl kdM 12 ad D dA) μ 6 [(3, .int x3), (2, .int x2), (1, .int x1), (0, .ref (ad 0))] [] (lX6_refusal_6 n k f x3 x2 x1 μ) := by
    intro k hk f
    induction f with
    | zero => intro x3 x2 x1 μ; rw [lX6_refusal_6]; exact hr_none
    | succ f ih =>
      intro x3 x2 x1 μ
      rw [lX6_refusal_6]
      refine hr_iload_n hC dX6_refusal_6 rfl 0 rfl ?_
      refine hr_aload_n hC dX6_refusal_7 rfl 3 rfl ?_
      refine hr_getI hC hiX6_refusal_X6 rfl km0 15 (by decide) hmX6_refusal_160 rfl dX6_refusal_8 ?_
      refine hr_icmp_ge (tgt := 105) hC dX6_refusal_11 (by decide) (fun _ => ?_) (fun _ => ?_)
      · refine hr_sub (lv' := [(3, .int x3), (2, .int x2), (1, .int x1), (0, .ref (ad 0))]) [0, 1, 2, 3] rfl ?_
        exact hk _ _ _ _
      · refine hr_aload_n hC dX6_refusal_14 rfl 3 rfl ?_
        refine hr_aload_n hC dX6_refusal_15 rfl 3 rfl ?_
        refine hr_getR hC hiX6_refusal_X6 rfl km0 14 (by decide) hmX6_refusal_42 rfl dX6_refusal_16 ?_
        refine hr_iconst (v := 2) hC dX6_refusal_19 (by decide) ?_
        refine hr_iload_n hC dX6_refusal_20 rfl 0 rfl ?_
        refine hr_imul hC dX6_refusal_21 ?_
        refine hr_iald hC km11 dX6_refusal_22 ?_
        refine hr_callVi (As := [.int (rd μ 11 ((2 : Int32) * x3).toNatClampNeg)]) (k := 0) hC rfl (tX6_isDevice hI n (rd μ 11 ((2 : Int32) * x3).toNatClampNeg) μ) (cwV 1 hC.1.2.2.2.2 gX6_refusal_X6_isDevice rfl rfl rfl (by decide +kernel) ⟨Nat.le_of_ble_eq_true rfl, Nat.le_of_ble_eq_true rfl⟩) km0 rfl rfl rfl (Nat.le_of_ble_eq_true rfl) dX6_refusal_23 (fun r23 m23 => ?_)
        refine hr_istore (lv' := [(4, .int r23), (3, .int x3), (2, .int x2), (1, .int x1), (0, .ref (ad 0))]) hC dX6_refusal_26 (by decide) rfl ?_
        refine hr_iload_n hC dX6_refusal_28 rfl 3 rfl ?_
        refine hr_if_eq (tgt := 41) hC dX6_refusal_29 (by decide) (fun _ => ?_) (fun _ => ?_)
        · refine hr_iconst (v := 0) hC dX6_refusal_41 (by decide) ?_
          refine hr_istore_n (lv' := [(1, .int (0 : Int32)), (4, .int r23), (3, .int x3), (2, .int x2), (0, .ref (ad 0))]) hC dX6_refusal_42 rfl (by decide) rfl ?_
          refine hr_iload_n hC dX6_refusal_43 rfl 3 rfl ?_
          refine hr_if_eq (tgt := 97) hC dX6_refusal_44 (by decide) (fun _ => ?_) (fun _ => ?_)
          · refine hr_iconst (v := 0) hC dX6_refusal_97 (by decide) ?_
            refine hr_istore_n (lv' := [(2, .int (0 : Int32)), (1, .int (0 : Int32)), (4, .int r23), (3, .int x3), (0, .ref (ad 0))]) hC dX6_refusal_98 rfl (by decide) rfl ?_
            refine hr_iinc (v := (x3 + (1 : Int32))) (lv' := [(3, .int (x3 + (1 : Int32))), (2, .int (0 : Int32)), (1, .int (0 : Int32)), (4, .int r23), (0, .ref (ad 0))]) (kx := 3) hC dX6_refusal_99 rfl rfl (by decide) rfl ?_
            refine hr_goto (tgt := 6) hC dX6_refusal_102 (by decide) ?_
            refine hr_sub (lv' := [(3, .int (x3 + (1 : Int32))), (2, .int (0 : Int32)), (1, .int (0 : Int32)), (0, .ref (ad 0))]) [0, 1, 2, 4] rfl ?_
            exact ih _ _ _ _
          · refine hr_iload hC dX6_refusal_47 1 rfl ?_
            refine hr_if_eq (tgt := 93) hC dX6_refusal_49 (by decide) (fun _ => ?_) (fun _ => ?_)
            · refine hr_iconst (v := 1) hC dX6_refusal_93 (by decide) ?_
              refine hr_goto (tgt := 98) hC dX6_refusal_94 (by decide) ?_
              refine hr_istore_n (lv' := [(2, .int (1 : Int32)), (1, .int (0 : Int32)), (4, .int r23), (3, .int x3), (0, .ref (ad 0))]) hC dX6_refusal_98 rfl (by decide) rfl ?_
              refine hr_iinc (v := (x3 + (1 : Int32))) (lv' := [(3, .int (x3 + (1 : Int32))), (2, .int (1 : Int32)), (1, .int (0 : Int32)), (4, .int r23), (0, .ref (ad 0))]) (kx := 3) hC dX6_refusal_99 rfl rfl (by decide) rfl ?_
              refine hr_goto (tgt := 6) hC dX6_refusal_102 (by decide) ?_
              refine hr_sub (lv' := [(3, .int (x3 + (1 : Int32))), (2, .int (1 : Int32)), (1, .int (0 : Int32)), (0, .ref (ad 0))]) [0, 1, 2, 4] rfl ?_
              exact ih _ _ _ _
            · refine hr_aload_n hC dX6_refusal_52 rfl 4 rfl ?_
              refine hr_getR hC hiX6_refusal_X6 rfl km0 14 (by decide) hmX6_refusal_42 rfl dX6_refusal_53 ?_
              refine hr_iconst (v := 2) hC dX6_refusal_56 (by decide) ?_
              refine hr_iload_n hC dX6_refusal_57 rfl 2 rfl ?_
              refine hr_imul hC dX6_refusal_58 ?_
              refine hr_iconst (v := 1) hC dX6_refusal_59 (by decide) ?_
              refine hr_iadd hC dX6_refusal_60 ?_
              refine hr_iald hC km11 dX6_refusal_61 ?_
              refine hr_bipush (v := -5) hC dX6_refusal_62 (by decide) ?_
              refine hr_icmp_eq (tgt := 93) hC dX6_refusal_64 (by decide) (fun _ => ?_) (fun _ => ?_)
              · refine hr_iconst (v := 1) hC dX6_refusal_93 (by decide) ?_
                refine hr_goto (tgt := 98) hC dX6_refusal_94 (by decide) ?_
                refine hr_istore_n (lv' := [(2, .int (1 : Int32)), (1, .int (0 : Int32)), (4, .int r23), (3, .int x3), (0, .ref (ad 0))]) hC dX6_refusal_98 rfl (by decide) rfl ?_
                refine hr_iinc (v := (x3 + (1 : Int32))) (lv' := [(3, .int (x3 + (1 : Int32))), (2, .int (1 : Int32)), (1, .int (0 : Int32)), (4, .int r23), (0, .ref (ad 0))]) (kx := 3) hC dX6_refusal_99 rfl rfl (by decide) rfl ?_
                refine hr_goto (tgt := 6) hC dX6_refusal_102 (by decide) ?_
                refine hr_sub (lv' := [(3, .int (x3 + (1 : Int32))), (2, .int (1 : Int32)), (1, .int (0 : Int32)), (0, .ref (ad 0))]) [0, 1, 2, 4] rfl ?_
                exact ih _ _ _ _
              · refine hr_aload_n hC dX6_refusal_67 rfl 4 rfl ?_
                refine hr_getR hC hiX6_refusal_X6 rfl km0 14 (by decide) hmX6_refusal_42 rfl dX6_refusal_68 ?_
                refine hr_iconst (v := 2) hC dX6_refusal_71 (by decide) ?_
                refine hr_iload_n hC dX6_refusal_72 rfl 2 rfl ?_
                refine hr_imul hC dX6_refusal_73 ?_
                refine hr_iconst (v := 1) hC dX6_refusal_74 (by decide) ?_
                refine hr_iadd hC dX6_refusal_75 ?_
                refine hr_iald hC km11 dX6_refusal_76 ?_
                refine hr_aload_n hC dX6_refusal_77 rfl 4 rfl ?_
                refine hr_aload_n hC dX6_refusal_78 rfl 4 rfl ?_
                refine hr_getR hC hiX6_refusal_X6 rfl km0 14 (by decide) hmX6_refusal_42 rfl dX6_refusal_79 ?_
                refine hr_iconst (v := 2) hC dX6_refusal_82 (by decide) ?_
                refine hr_iload_n hC dX6_refusal_83 rfl 2 rfl ?_
                refine hr_imul hC dX6_refusal_84 ?_
                refine hr_iald hC km11 dX6_refusal_85 ?_
                refine hr_iconst (v := 2) hC dX6_refusal_86 (by decide) ?_
                refine hr_callVi (As := [.int (rd m23 11 ((2 : Int32) * x3).toNatClampNeg), .int (2 : Int32)]) (k := 0) hC rfl (tX6_of hI n (rd m23 11 ((2 : Int32) * x3).toNatClampNeg) (2 : Int32) m23) (cwV 2 hC.1.2.2.2.2 gX6_refusal_X6_of rfl rfl rfl (by decide +kernel) ⟨Nat.le_of_ble_eq_true rfl, Nat.le_of_ble_eq_true rfl⟩) km0 rfl rfl rfl (Nat.le_of_ble_eq_true rfl) dX6_refusal_87 (fun r87 m87 => ?_)
                refine hr_icmp_lt (tgt := 97) hC dX6_refusal_90 (by decide) (fun _ => ?_) (fun _ => ?_)
                · refine hr_iconst (v := 0) hC dX6_refusal_97 (by decide) ?_
                  refine hr_istore_n (lv' := [(2, .int (0 : Int32)), (1, .int (0 : Int32)), (4, .int r23), (3, .int x3), (0, .ref (ad 0))]) hC dX6_refusal_98 rfl (by decide) rfl ?_
                  refine hr_iinc (v := (x3 + (1 : Int32))) (lv' := [(3, .int (x3 + (1 : Int32))), (2, .int (0 : Int32)), (1, .int (0 : Int32)), (4, .int r23), (0, .ref (ad 0))]) (kx := 3) hC dX6_refusal_99 rfl rfl (by decide) rfl ?_
                  refine hr_goto (tgt := 6) hC dX6_refusal_102 (by decide) ?_
                  refine hr_sub (lv' := [(3, .int (x3 + (1 : Int32))), (2, .int (0 : Int32)), (1, .int (0 : Int32)), (0, .ref (ad 0))]) [0, 1, 2, 4] rfl ?_
                  exact ih _ _ _ _
                · refine hr_iconst (v := 1) hC dX6_refusal_93 (by decide) ?_
                  refine hr_goto (tgt := 98) hC dX6_refusal_94 (by decide) ?_
                  refine hr_istore_n (lv' := [(2, .int (1 : Int32)), (1, .int (0 : Int32)), (4, .int r23), (3, .int x3), (0, .ref (ad 0))]) hC dX6_refusal_98 rfl (by decide) rfl ?_
                  refine hr_iinc (v := (x3 + (1 : Int32))) (lv' := [(3, .int (x3 + (1 : Int32))), (2, .int (1 : Int32)), (1, .int (0 : Int32)), (4, .int r23), (0, .ref (ad 0))]) (kx := 3) hC dX6_refusal_99 rfl rfl (by decide) rfl ?_
                  refine hr_goto (tgt := 6) hC dX6_refusal_102 (by decide) ?_
                  refine hr_sub (lv' := [(3, .int (x3 + (1 : Int32))), (2, .int (1 : Int32)), (1, .int (0 : Int32)), (0, .ref (ad 0))]) [0, 1, 2, 4] rfl ?_
                  exact ih _ _ _ _
        · refine hr_iload hC dX6_refusal_32 0 rfl ?_
          refine hr_if_eq (tgt := 41) hC dX6_refusal_34 (by decide) (fun _ => ?_) (fun _ => ?_)
          · refine hr_iconst (v := 0) hC dX6_refusal_41 (by decide) ?_
            refine hr_istore_n (lv' := [(1, .int (0 : Int32)), (4, .int r23), (3, .int x3), (2, .int x2), (0, .ref (ad 0))]) hC dX6_refusal_42 rfl (by decide) rfl ?_
            refine hr_iload_n hC dX6_refusal_43 rfl 3 rfl ?_
            refine hr_if_eq (tgt := 97) hC dX6_refusal_44 (by decide) (fun _ => ?_) (fun _ => ?_)
            · refine hr_iconst (v := 0) hC dX6_refusal_97 (by decide) ?_
              refine hr_istore_n (lv' := [(2, .int (0 : Int32)), (1, .int (0 : Int32)), (4, .int r23), (3, .int x3), (0, .ref (ad 0))]) hC dX6_refusal_98 rfl (by decide) rfl ?_
              refine hr_iinc (v := (x3 + (1 : Int32))) (lv' := [(3, .int (x3 + (1 : Int32))), (2, .int (0 : Int32)), (1, .int (0 : Int32)), (4, .int r23), (0, .ref (ad 0))]) (kx := 3) hC dX6_refusal_99 rfl rfl (by decide) rfl ?_
              refine hr_goto (tgt := 6) hC dX6_refusal_102 (by decide) ?_
              refine hr_sub (lv' := [(3, .int (x3 + (1 : Int32))), (2, .int (0 : Int32)), (1, .int (0 : Int32)), (0, .ref (ad 0))]) [0, 1, 2, 4] rfl ?_
              exact ih _ _ _ _
            · refine hr_iload hC dX6_refusal_47 1 rfl ?_
              refine hr_if_eq (tgt := 93) hC dX6_refusal_49 (by decide) (fun _ => ?_) (fun _ => ?_)
              · refine hr_iconst (v := 1) hC dX6_refusal_93 (by decide) ?_
                refine hr_goto (tgt := 98) hC dX6_refusal_94 (by decide) ?_
                refine hr_istore_n (lv' := [(2, .int (1 : Int32)), (1, .int (0 : Int32)), (4, .int r23), (3, .int x3), (0, .ref (ad 0))]) hC dX6_refusal_98 rfl (by decide) rfl ?_
                refine hr_iinc (v := (x3 + (1 : Int32))) (lv' := [(3, .int (x3 + (1 : Int32))), (2, .int (1 : Int32)), (1, .int (0 : Int32)), (4, .int r23), (0, .ref (ad 0))]) (kx := 3) hC dX6_refusal_99 rfl rfl (by decide) rfl ?_
                refine hr_goto (tgt := 6) hC dX6_refusal_102 (by decide) ?_
                refine hr_sub (lv' := [(3, .int (x3 + (1 : Int32))), (2, .int (1 : Int32)), (1, .int (0 : Int32)), (0, .ref (ad 0))]) [0, 1, 2, 4] rfl ?_
                exact ih _ _ _ _
              · refine hr_aload_n hC dX6_refusal_52 rfl 4 rfl ?_
                refine hr_getR hC hiX6_refusal_X6 rfl km0 14 (by decide) hmX6_refusal_42 rfl dX6_refusal_53 ?_
                refine hr_iconst (v := 2) hC dX6_refusal_56 (by decide) ?_
                refine hr_iload_n hC dX6_refusal_57 rfl 2 rfl ?_
                refine hr_imul hC dX6_refusal_58 ?_
                refine hr_iconst (v := 1) hC dX6_refusal_59 (by decide) ?_
                refine hr_iadd hC dX6_refusal_60 ?_
                refine hr_iald hC km11 dX6_refusal_61 ?_
                refine hr_bipush (v := -5) hC dX6_refusal_62 (by decide) ?_
                refine hr_icmp_eq (tgt := 93) hC dX6_refusal_64 (by decide) (fun _ => ?_) (fun _ => ?_)
                · refine hr_iconst (v := 1) hC dX6_refusal_93 (by decide) ?_
                  refine hr_goto (tgt := 98) hC dX6_refusal_94 (by decide) ?_
                  refine hr_istore_n (lv' := [(2, .int (1 : Int32)), (1, .int (0 : Int32)), (4, .int r23), (3, .int x3), (0, .ref (ad 0))]) hC dX6_refusal_98 rfl (by decide) rfl ?_
                  refine hr_iinc (v := (x3 + (1 : Int32))) (lv' := [(3, .int (x3 + (1 : Int32))), (2, .int (1 : Int32)), (1, .int (0 : Int32)), (4, .int r23), (0, .ref (ad 0))]) (kx := 3) hC dX6_refusal_99 rfl rfl (by decide) rfl ?_
                  refine hr_goto (tgt := 6) hC dX6_refusal_102 (by decide) ?_
                  refine hr_sub (lv' := [(3, .int (x3 + (1 : Int32))), (2, .int (1 : Int32)), (1, .int (0 : Int32)), (0, .ref (ad 0))]) [0, 1, 2, 4] rfl ?_
                  exact ih _ _ _ _
                · refine hr_aload_n hC dX6_refusal_67 rfl 4 rfl ?_
                  refine hr_getR hC hiX6_refusal_X6 rfl km0 14 (by decide) hmX6_refusal_42 rfl dX6_refusal_68 ?_
                  refine hr_iconst (v := 2) hC dX6_refusal_71 (by decide) ?_
                  refine hr_iload_n hC dX6_refusal_72 rfl 2 rfl ?_
                  refine hr_imul hC dX6_refusal_73 ?_
                  refine hr_iconst (v := 1) hC dX6_refusal_74 (by decide) ?_
                  refine hr_iadd hC dX6_refusal_75 ?_
                  refine hr_iald hC km11 dX6_refusal_76 ?_
                  refine hr_aload_n hC dX6_refusal_77 rfl 4 rfl ?_
                  refine hr_aload_n hC dX6_refusal_78 rfl 4 rfl ?_
                  refine hr_getR hC hiX6_refusal_X6 rfl km0 14 (by decide) hmX6_refusal_42 rfl dX6_refusal_79 ?_
                  refine hr_iconst (v := 2) hC dX6_refusal_82 (by decide) ?_
                  refine hr_iload_n hC dX6_refusal_83 rfl 2 rfl ?_
                  refine hr_imul hC dX6_refusal_84 ?_
                  refine hr_iald hC km11 dX6_refusal_85 ?_
                  refine hr_iconst (v := 2) hC dX6_refusal_86 (by decide) ?_
                  refine hr_callVi (As := [.int (rd m23 11 ((2 : Int32) * x3).toNatClampNeg), .int (2 : Int32)]) (k := 0) hC rfl (tX6_of hI n (rd m23 11 ((2 : Int32) * x3).toNatClampNeg) (2 : Int32) m23) (cwV 2 hC.1.2.2.2.2 gX6_refusal_X6_of rfl rfl rfl (by decide +kernel) ⟨Nat.le_of_ble_eq_true rfl, Nat.le_of_ble_eq_true rfl⟩) km0 rfl rfl rfl (Nat.le_of_ble_eq_true rfl) dX6_refusal_87 (fun r87 m87 => ?_)
                  refine hr_icmp_lt (tgt := 97) hC dX6_refusal_90 (by decide) (fun _ => ?_) (fun _ => ?_)
                  · refine hr_iconst (v := 0) hC dX6_refusal_97 (by decide) ?_
                    refine hr_istore_n (lv' := [(2, .int (0 : Int32)), (1, .int (0 : Int32)), (4, .int r23), (3, .int x3), (0, .ref (ad 0))]) hC dX6_refusal_98 rfl (by decide) rfl ?_
                    refine hr_iinc (v := (x3 + (1 : Int32))) (lv' := [(3, .int (x3 + (1 : Int32))), (2, .int (0 : Int32)), (1, .int (0 : Int32)), (4, .int r23), (0, .ref (ad 0))]) (kx := 3) hC dX6_refusal_99 rfl rfl (by decide) rfl ?_
                    refine hr_goto (tgt := 6) hC dX6_refusal_102 (by decide) ?_
                    refine hr_sub (lv' := [(3, .int (x3 + (1 : Int32))), (2, .int (0 : Int32)), (1, .int (0 : Int32)), (0, .ref (ad 0))]) [0, 1, 2, 4] rfl ?_
                    exact ih _ _ _ _
                  · refine hr_iconst (v := 1) hC dX6_refusal_93 (by decide) ?_
                    refine hr_goto (tgt := 98) hC dX6_refusal_94 (by decide) ?_
                    refine hr_istore_n (lv' := [(2, .int (1 : Int32)), (1, .int (0 : Int32)), (4, .int r23), (3, .int x3), (0, .ref (ad 0))]) hC dX6_refusal_98 rfl (by decide) rfl ?_
                    refine hr_iinc (v := (x3 + (1 : Int32))) (lv' := [(3, .int (x3 + (1 : Int32))), (2, .int (1 : Int32)), (1, .int (0 : Int32)), (4, .int r23), (0, .ref (ad 0))]) (kx := 3) hC dX6_refusal_99 rfl rfl (by decide) rfl ?_
                    refine hr_goto (tgt := 6) hC dX6_refusal_102 (by decide) ?_
                    refine hr_sub (lv' := [(3, .int (x3 + (1 : Int32))), (2, .int (1 : Int32)), (1, .int (0 : Int32)), (0, .ref (ad 0))]) [0, 1, 2, 4] rfl ?_
                    exact ih _ _ _ _
          · refine hr_iconst (v := 1) hC dX6_refusal_37 (by decide) ?_
            refine hr_goto (tgt := 42) hC dX6_refusal_38 (by decide) ?_
            refine hr_istore_n (lv' := [(1, .int (1 : Int32)), (4, .int r23), (3, .int x3), (2, .int x2), (0, .ref (ad 0))]) hC dX6_refusal_42 rfl (by decide) rfl ?_
            refine hr_iload_n hC dX6_refusal_43 rfl 3 rfl ?_
            refine hr_if_eq (tgt := 97) hC dX6_refusal_44 (by decide) (fun _ => ?_) (fun _ => ?_)
            · refine hr_iconst (v := 0) hC dX6_refusal_97 (by decide) ?_
              refine hr_istore_n (lv' := [(2, .int (0 : Int32)), (1, .int (1 : Int32)), (4, .int r23), (3, .int x3), (0, .ref (ad 0))]) hC dX6_refusal_98 rfl (by decide) rfl ?_
              refine hr_iinc (v := (x3 + (1 : Int32))) (lv' := [(3, .int (x3 + (1 : Int32))), (2, .int (0 : Int32)), (1, .int (1 : Int32)), (4, .int r23), (0, .ref (ad 0))]) (kx := 3) hC dX6_refusal_99 rfl rfl (by decide) rfl ?_
              refine hr_goto (tgt := 6) hC dX6_refusal_102 (by decide) ?_
              refine hr_sub (lv' := [(3, .int (x3 + (1 : Int32))), (2, .int (0 : Int32)), (1, .int (1 : Int32)), (0, .ref (ad 0))]) [0, 1, 2, 4] rfl ?_
              exact ih _ _ _ _
            · refine hr_iload hC dX6_refusal_47 1 rfl ?_
              refine hr_if_eq (tgt := 93) hC dX6_refusal_49 (by decide) (fun _ => ?_) (fun _ => ?_)
              · refine hr_iconst (v := 1) hC dX6_refusal_93 (by decide) ?_
                refine hr_goto (tgt := 98) hC dX6_refusal_94 (by decide) ?_
                refine hr_istore_n (lv' := [(2, .int (1 : Int32)), (1, .int (1 : Int32)), (4, .int r23), (3, .int x3), (0, .ref (ad 0))]) hC dX6_refusal_98 rfl (by decide) rfl ?_
                refine hr_iinc (v := (x3 + (1 : Int32))) (lv' := [(3, .int (x3 + (1 : Int32))), (2, .int (1 : Int32)), (1, .int (1 : Int32)), (4, .int r23), (0, .ref (ad 0))]) (kx := 3) hC dX6_refusal_99 rfl rfl (by decide) rfl ?_
                refine hr_goto (tgt := 6) hC dX6_refusal_102 (by decide) ?_
                refine hr_sub (lv' := [(3, .int (x3 + (1 : Int32))), (2, .int (1 : Int32)), (1, .int (1 : Int32)), (0, .ref (ad 0))]) [0, 1, 2, 4] rfl ?_
                exact ih _ _ _ _
              · refine hr_aload_n hC dX6_refusal_52 rfl 4 rfl ?_
                refine hr_getR hC hiX6_refusal_X6 rfl km0 14 (by decide) hmX6_refusal_42 rfl dX6_refusal_53 ?_
                refine hr_iconst (v := 2) hC dX6_refusal_56 (by decide) ?_
                refine hr_iload_n hC dX6_refusal_57 rfl 2 rfl ?_
                refine hr_imul hC dX6_refusal_58 ?_
                refine hr_iconst (v := 1) hC dX6_refusal_59 (by decide) ?_
                refine hr_iadd hC dX6_refusal_60 ?_
                refine hr_iald hC km11 dX6_refusal_61 ?_
                refine hr_bipush (v := -5) hC dX6_refusal_62 (by decide) ?_
                refine hr_icmp_eq (tgt := 93) hC dX6_refusal_64 (by decide) (fun _ => ?_) (fun _ => ?_)
                · refine hr_iconst (v := 1) hC dX6_refusal_93 (by decide) ?_
                  refine hr_goto (tgt := 98) hC dX6_refusal_94 (by decide) ?_
                  refine hr_istore_n (lv' := [(2, .int (1 : Int32)), (1, .int (1 : Int32)), (4, .int r23), (3, .int x3), (0, .ref (ad 0))]) hC dX6_refusal_98 rfl (by decide) rfl ?_
                  refine hr_iinc (v := (x3 + (1 : Int32))) (lv' := [(3, .int (x3 + (1 : Int32))), (2, .int (1 : Int32)), (1, .int (1 : Int32)), (4, .int r23), (0, .ref (ad 0))]) (kx := 3) hC dX6_refusal_99 rfl rfl (by decide) rfl ?_
                  refine hr_goto (tgt := 6) hC dX6_refusal_102 (by decide) ?_
                  refine hr_sub (lv' := [(3, .int (x3 + (1 : Int32))), (2, .int (1 : Int32)), (1, .int (1 : Int32)), (0, .ref (ad 0))]) [0, 1, 2, 4] rfl ?_
                  exact ih _ _ _ _
                · refine hr_aload_n hC dX6_refusal_67 rfl 4 rfl ?_
                  refine hr_getR hC hiX6_refusal_X6 rfl km0 14 (by decide) hmX6_refusal_42 rfl dX6_refusal_68 ?_
                  refine hr_iconst (v := 2) hC dX6_refusal_71 (by decide) ?_
                  refine hr_iload_n hC dX6_refusal_72 rfl 2 rfl ?_
                  refine hr_imul hC dX6_refusal_73 ?_
                  refine hr_iconst (v := 1) hC dX6_refusal_74 (by decide) ?_
                  refine hr_iadd hC dX6_refusal_75 ?_
                  refine hr_iald hC km11 dX6_refusal_76 ?_
                  refine hr_aload_n hC dX6_refusal_77 rfl 4 rfl ?_
                  refine hr_aload_n hC dX6_refusal_78 rfl 4 rfl ?_
                  refine hr_getR hC hiX6_refusal_X6 rfl km0 14 (by decide) hmX6_refusal_42 rfl dX6_refusal_79 ?_
                  refine hr_iconst (v := 2) hC dX6_refusal_82 (by decide) ?_
                  refine hr_iload_n hC dX6_refusal_83 rfl 2 rfl ?_
                  refine hr_imul hC dX6_refusal_84 ?_
                  refine hr_iald hC km11 dX6_refusal_85 ?_
                  refine hr_iconst (v := 2) hC dX6_refusal_86 (by decide) ?_
                  refine hr_callVi (As := [.int (rd m23 11 ((2 : Int32) * x3).toNatClampNeg), .int (2 : Int32)]) (k := 0) hC rfl (tX6_of hI n (rd m23 11 ((2 : Int32) * x3).toNatClampNeg) (2 : Int32) m23) (cwV 2 hC.1.2.2.2.2 gX6_refusal_X6_of rfl rfl rfl (by decide +kernel) ⟨Nat.le_of_ble_eq_true rfl, Nat.le_of_ble_eq_true rfl⟩) km0 rfl rfl rfl (Nat.le_of_ble_eq_true rfl) dX6_refusal_87 (fun r87 m87 => ?_)
                  refine hr_icmp_lt (tgt := 97) hC dX6_refusal_90 (by decide) (fun _ => ?_) (fun _ => ?_)
                  · refine hr_iconst (v := 0) hC dX6_refusal_97 (by decide) ?_
                    refine hr_istore_n (lv' := [(2, .int (0 : Int32)), (1, .int (1 : Int32)), (4, .int r23), (3, .int x3), (0, .ref (ad 0))]) hC dX6_refusal_98 rfl (by decide) rfl ?_
                    refine hr_iinc (v := (x3 + (1 : Int32))) (lv' := [(3, .int (x3 + (1 : Int32))), (2, .int (0 : Int32)), (1, .int (1 : Int32)), (4, .int r23), (0, .ref (ad 0))]) (kx := 3) hC dX6_refusal_99 rfl rfl (by decide) rfl ?_
                    refine hr_goto (tgt := 6) hC dX6_refusal_102 (by decide) ?_
                    refine hr_sub (lv' := [(3, .int (x3 + (1 : Int32))), (2, .int (0 : Int32)), (1, .int (1 : Int32)), (0, .ref (ad 0))]) [0, 1, 2, 4] rfl ?_
                    exact ih _ _ _ _
                  · refine hr_iconst (v := 1) hC dX6_refusal_93 (by decide) ?_
                    refine hr_goto (tgt := 98) hC dX6_refusal_94 (by decide) ?_
                    refine hr_istore_n (lv' := [(2, .int (1 : Int32)), (1, .int (1 : Int32)), (4, .int r23), (3, .int x3), (0, .ref (ad 0))]) hC dX6_refusal_98 rfl (by decide) rfl ?_
                    refine hr_iinc (v := (x3 + (1 : Int32))) (lv' := [(3, .int (x3 + (1 : Int32))), (2, .int (1 : Int32)), (1, .int (1 : Int32)), (4, .int r23), (0, .ref (ad 0))]) (kx := 3) hC dX6_refusal_99 rfl rfl (by decide) rfl ?_
                    refine hr_goto (tgt := 6) hC dX6_refusal_102 (by decide) ?_
                    refine hr_sub (lv' := [(3, .int (x3 + (1 : Int32))), (2, .int (1 : Int32)), (1, .int (1 : Int32)), (0, .ref (ad 0))]) [0, 1, 2, 4] rfl ?_
                    exact ih _ _ _ _
  rw [fX6_refusal]
  refine hr_iconst (v := 1) hC dX6_refusal_0 (by decide) ?_
  refine hr_istore_n (lv' := [(1, .int (1 : Int32)), (0, .ref (ad 0))]) hC dX6_refusal_1 rfl (by decide) rfl ?_
  refine hr_iconst (v := 1) hC dX6_refusal_2 (by decide) ?_
  refine hr_istore_n (lv' := [(2, .int (1 : Int32)), (1, .int (1 : Int32)), (0, .ref (ad 0))]) hC dX6_refusal_3 rfl (by decide) rfl ?_
  refine hr_iconst (v := 0) hC dX6_refusal_4 (by decide) ?_
  refine hr_istore_n (lv' := [(3, .int (0 : Int32)), (2, .int (1 : Int32)), (1, .int (1 : Int32)), (0, .ref (ad 0))]) hC dX6_refusal_5 rfl (by decide) rfl ?_
  refine hr_sub (lv' := [(3, .int (0 : Int32)), (2, .int (1 : Int32)), (1, .int (1 : Int32)), (0, .ref (ad 0))]) [0, 1, 2, 3] rfl ?_
  refine L6 _ (fun x3_6 x2_6 x1_6 m6 => ?_) _ _ _ _ _
  refine hr_iload_n hC dX6_refusal_105 rfl 2 rfl ?_
  refine hr_if_ne (tgt := 113) hC dX6_refusal_106 (by decide) (fun _ => ?_) (fun _ => ?_)
  · refine hr_iconst (v := -1) hC dX6_refusal_109 (by decide) ?_
    refine hr_goto (tgt := 123) hC dX6_refusal_110 (by decide) ?_
    exact hr_ireti hC hr dX6_refusal_123
  · refine hr_iload_n hC dX6_refusal_113 rfl 1 rfl ?_
    refine hr_if_eq (tgt := 121) hC dX6_refusal_114 (by decide) (fun _ => ?_) (fun _ => ?_)
    · refine hr_bipush (v := -4) hC dX6_refusal_121 (by decide) ?_
      exact hr_ireti hC hr dX6_refusal_123
    · refine hr_iconst (v := 0) hC dX6_refusal_117 (by decide) ?_
      refine hr_goto (tgt := 123) hC dX6_refusal_118 (by decide) ?_
      exact hr_ireti hC hr dX6_refusal_123
theorem hmX6_readAll_146 : Cond.fieldLink RX6 146 "HeatBillsModel" "spot" "I" ∈ wsX6_readAll := List.mem_of_getElem? (i := 1) rfl
theorem hmX6_readAll_160 : Cond.fieldLink RX6 160 "HeatBillsModel" "tolds" "I" ∈ wsX6_readAll := List.mem_of_getElem? (i := 2) rfl
theorem hmX6_readAll_42 : Cond.fieldLink RX6 42 "HeatBillsModel" "told" "[I" ∈ wsX6_readAll := List.mem_of_getElem? (i := 3) rfl
theorem hiX6_readAll_X6 : ∀ w ∈ wsX60, w ∈ wsX6_readAll := fun _ h => List.mem_cons_of_mem _ (List.mem_append_right _ h)
def lX6_readAll_32 (n : Nat) (k : Int32 → hb_m → Option (Int32 × hb_m)) : Nat → Int32 → hb_m → Option (Int32 × hb_m)
  | 0, _, _ => none
  | f + 1, x2, μ => if (rd μ 0 15) ≤ x2 then
(k x2 μ)
else
(if ib (((2 : Int32) * x2) + (1 : Int32)) 64 then
if ib ((2 : Int32) * x2) 64 then
if (rd μ 11 (((2 : Int32) * x2) + (1 : Int32)).toNatClampNeg) = (-5 : Int32) then
(bv (fX6_puts n (rd μ 11 ((2 : Int32) * x2).toNatClampNeg) (4 : Int32) (1 : Int32) μ) (fun m72 =>
if ib ((2 : Int32) * x2) 64 then
if (rd μ 11 (((2 : Int32) * x2) + (1 : Int32)).toNatClampNeg) = (-5 : Int32) then
(if ib ((2 : Int32) * x2) 64 then
bi (fX6_of n (rd m72 11 ((2 : Int32) * x2).toNatClampNeg) (3 : Int32) m72) (fun r101 m101 =>
bv (fX6_puts n (rd m72 11 ((2 : Int32) * x2).toNatClampNeg) (3 : Int32) r101 m101) (fun m108 =>
lX6_readAll_32 n k f (x2 + (1 : Int32)) m108))
else none)
else
(bv (fX6_puts n (rd m72 11 ((2 : Int32) * x2).toNatClampNeg) (3 : Int32) (rd μ 11 (((2 : Int32) * x2) + (1 : Int32)).toNatClampNeg) m72) (fun m108 =>
lX6_readAll_32 n k f (x2 + (1 : Int32)) m108))
else none))
else
(bv (fX6_puts n (rd μ 11 ((2 : Int32) * x2).toNatClampNeg) (4 : Int32) (0 : Int32) μ) (fun m72 =>
if ib ((2 : Int32) * x2) 64 then
if (rd μ 11 (((2 : Int32) * x2) + (1 : Int32)).toNatClampNeg) = (-5 : Int32) then
(if ib ((2 : Int32) * x2) 64 then
bi (fX6_of n (rd m72 11 ((2 : Int32) * x2).toNatClampNeg) (3 : Int32) m72) (fun r101 m101 =>
bv (fX6_puts n (rd m72 11 ((2 : Int32) * x2).toNatClampNeg) (3 : Int32) r101 m101) (fun m108 =>
lX6_readAll_32 n k f (x2 + (1 : Int32)) m108))
else none)
else
(bv (fX6_puts n (rd m72 11 ((2 : Int32) * x2).toNatClampNeg) (3 : Int32) (rd μ 11 (((2 : Int32) * x2) + (1 : Int32)).toNatClampNeg) m72) (fun m108 =>
lX6_readAll_32 n k f (x2 + (1 : Int32)) m108))
else none))
else none
else none)
def fX6_readAll (n : Nat) (μ : hb_m) : Option (Int32 × hb_m) :=
bi (fX6_isText n μ) (fun r1 m1 =>
if r1 = 0 then
(some (((-100 : Int32) - (rd m1 0 13)), m1))
else
(bi (fX6_refusal n m1) (fun r16 m16 =>
if 0 ≤ r16 then
(bv (fX6_records n m16) (fun m27 =>
lX6_readAll_32 n (fun x2_32 m32 =>
some ((rd m32 0 15), m32)) n (0 : Int32) m27))
else
(some (r16, m16)))))
abbrev rmX6_readAll : Room := { frames := 5, cells := 0, slots := 0, locals := 110 }
set_option maxRecDepth 100000 in
set_option maxHeartbeats 4000000 in
theorem tX6_readAll {l : Launch} {D : va_G} {ad : Nat → Nat} {dA : Nat → ClassId} (hI : hb_I 12 ad) (n : Nat) (μ : hb_m) : hb_M (hb_Qi vwCl kdM 12 ad D dA) l yX6_readAll wsX6_readAll rmX6_readAll vwCl kdM 12 ad D dA [] [] [.ref (ad 0)] μ (fX6_readAll n μ) := by
  refine hb_start (cc := cX6_readAll) (maxL := 4) (ret := (some .int)) (by decide) rfl hI (Nat.le_of_ble_eq_true rfl) [(0, .ref (ad 0))] rfl ?_
  intro p e s m args below meth c hC hr
  have L32 : ∀ (k : Int32 → hb_m → Option (Int32 × hb_m)) (hk : ∀ (x2 : Int32) (μ : hb_m), hb_V p l e rmX6_readAll s m args below meth c 4 vwCl kdM 12 ad D dA (hb_Qi vwCl kdM 12 ad D dA) μ 117 [(2, .int x2), (0, .ref (ad 0))] [] (k x2 μ)) (f : Nat) (x2 : Int32) (μ : hb_m), hb_V p l e rmX6_readAll s m args below meth c 4 vwCl kdM 12 ad D dA (hb_Qi vwCl kdM 12 ad D dA) μ 32 [(2, .int x2), (0, .ref (ad 0))] [] (lX6_readAll_32 n k f x2 μ) := by
    intro k hk f
    induction f with
    | zero => intro x2 μ; rw [lX6_readAll_32]; exact hr_none
    | succ f ih =>
      intro x2 μ
      rw [lX6_readAll_32]
      refine hr_iload_n hC dX6_readAll_32 rfl 0 rfl ?_
      refine hr_aload_n hC dX6_readAll_33 rfl 1 rfl ?_
      refine hr_getI hC hiX6_readAll_X6 rfl km0 15 (by decide) hmX6_readAll_160 rfl dX6_readAll_34 ?_
      refine hr_icmp_ge (tgt := 117) hC dX6_readAll_37 (by decide) (fun _ => ?_) (fun _ => ?_)
      · refine hr_sub (lv' := [(2, .int x2), (0, .ref (ad 0))]) [0, 1] rfl ?_
        exact hk _ _
      · refine hr_aload_n hC dX6_readAll_40 rfl 1 rfl ?_
        refine hr_getR hC hiX6_readAll_X6 rfl km0 14 (by decide) hmX6_readAll_42 rfl dX6_readAll_41 ?_
        refine hr_iconst (v := 2) hC dX6_readAll_44 (by decide) ?_
        refine hr_iload_n hC dX6_readAll_45 rfl 0 rfl ?_
        refine hr_imul hC dX6_readAll_46 ?_
        refine hr_iconst (v := 1) hC dX6_readAll_47 (by decide) ?_
        refine hr_iadd hC dX6_readAll_48 ?_
        refine hr_iald hC km11 dX6_readAll_49 ?_
        refine hr_istore_n (lv' := [(3, .int (rd μ 11 (((2 : Int32) * x2) + (1 : Int32)).toNatClampNeg)), (2, .int x2), (0, .ref (ad 0))]) hC dX6_readAll_50 rfl (by decide) rfl ?_
        refine hr_aload_n hC dX6_readAll_51 rfl 2 rfl ?_
        refine hr_aload_n hC dX6_readAll_52 rfl 2 rfl ?_
        refine hr_getR hC hiX6_readAll_X6 rfl km0 14 (by decide) hmX6_readAll_42 rfl dX6_readAll_53 ?_
        refine hr_iconst (v := 2) hC dX6_readAll_56 (by decide) ?_
        refine hr_iload_n hC dX6_readAll_57 rfl 1 rfl ?_
        refine hr_imul hC dX6_readAll_58 ?_
        refine hr_iald hC km11 dX6_readAll_59 ?_
        refine hr_iconst (v := 4) hC dX6_readAll_60 (by decide) ?_
        refine hr_iload_n hC dX6_readAll_61 rfl 0 rfl ?_
        refine hr_bipush (v := -5) hC dX6_readAll_62 (by decide) ?_
        refine hr_icmp_ne (tgt := 71) hC dX6_readAll_64 (by decide) (fun _ => ?_) (fun _ => ?_)
        · refine hr_iconst (v := 1) hC dX6_readAll_67 (by decide) ?_
          refine hr_goto (tgt := 72) hC dX6_readAll_68 (by decide) ?_
          refine hr_callVv (As := [.int (rd μ 11 ((2 : Int32) * x2).toNatClampNeg), .int (4 : Int32), .int (1 : Int32)]) (k := 0) hC rfl (tX6_puts hI n (rd μ 11 ((2 : Int32) * x2).toNatClampNeg) (4 : Int32) (1 : Int32) μ) (cwV 3 hC.1.2.2.2.2 gX6_readAll_X6_puts rfl rfl rfl (by decide +kernel) ⟨Nat.le_of_ble_eq_true rfl, Nat.le_of_ble_eq_true rfl⟩) km0 rfl rfl rfl (Nat.le_of_ble_eq_true rfl) dX6_readAll_72 (fun m72 => ?_)
          refine hr_aload_n hC dX6_readAll_75 rfl 2 rfl ?_
          refine hr_aload_n hC dX6_readAll_76 rfl 2 rfl ?_
          refine hr_getR hC hiX6_readAll_X6 rfl km0 14 (by decide) hmX6_readAll_42 rfl dX6_readAll_77 ?_
          refine hr_iconst (v := 2) hC dX6_readAll_80 (by decide) ?_
          refine hr_iload_n hC dX6_readAll_81 rfl 1 rfl ?_
          refine hr_imul hC dX6_readAll_82 ?_
          refine hr_iald hC km11 dX6_readAll_83 ?_
          refine hr_iconst (v := 3) hC dX6_readAll_84 (by decide) ?_
          refine hr_iload_n hC dX6_readAll_85 rfl 0 rfl ?_
          refine hr_bipush (v := -5) hC dX6_readAll_86 (by decide) ?_
          refine hr_icmp_ne (tgt := 107) hC dX6_readAll_88 (by decide) (fun _ => ?_) (fun _ => ?_)
          · refine hr_aload_n hC dX6_readAll_91 rfl 2 rfl ?_
            refine hr_aload_n hC dX6_readAll_92 rfl 2 rfl ?_
            refine hr_getR hC hiX6_readAll_X6 rfl km0 14 (by decide) hmX6_readAll_42 rfl dX6_readAll_93 ?_
            refine hr_iconst (v := 2) hC dX6_readAll_96 (by decide) ?_
            refine hr_iload_n hC dX6_readAll_97 rfl 1 rfl ?_
            refine hr_imul hC dX6_readAll_98 ?_
            refine hr_iald hC km11 dX6_readAll_99 ?_
            refine hr_iconst (v := 3) hC dX6_readAll_100 (by decide) ?_
            refine hr_callVi (As := [.int (rd m72 11 ((2 : Int32) * x2).toNatClampNeg), .int (3 : Int32)]) (k := 0) hC rfl (tX6_of hI n (rd m72 11 ((2 : Int32) * x2).toNatClampNeg) (3 : Int32) m72) (cwV 2 hC.1.2.2.2.2 gX6_readAll_X6_of rfl rfl rfl (by decide +kernel) ⟨Nat.le_of_ble_eq_true rfl, Nat.le_of_ble_eq_true rfl⟩) km0 rfl rfl rfl (Nat.le_of_ble_eq_true rfl) dX6_readAll_101 (fun r101 m101 => ?_)
            refine hr_goto (tgt := 108) hC dX6_readAll_104 (by decide) ?_
            refine hr_callVv (As := [.int (rd m72 11 ((2 : Int32) * x2).toNatClampNeg), .int (3 : Int32), .int r101]) (k := 0) hC rfl (tX6_puts hI n (rd m72 11 ((2 : Int32) * x2).toNatClampNeg) (3 : Int32) r101 m101) (cwV 3 hC.1.2.2.2.2 gX6_readAll_X6_puts rfl rfl rfl (by decide +kernel) ⟨Nat.le_of_ble_eq_true rfl, Nat.le_of_ble_eq_true rfl⟩) km0 rfl rfl rfl (Nat.le_of_ble_eq_true rfl) dX6_readAll_108 (fun m108 => ?_)
            refine hr_iinc (v := (x2 + (1 : Int32))) (lv' := [(2, .int (x2 + (1 : Int32))), (3, .int (rd μ 11 (((2 : Int32) * x2) + (1 : Int32)).toNatClampNeg)), (0, .ref (ad 0))]) (kx := 1) hC dX6_readAll_111 rfl rfl (by decide) rfl ?_
            refine hr_goto (tgt := 32) hC dX6_readAll_114 (by decide) ?_
            refine hr_sub (lv' := [(2, .int (x2 + (1 : Int32))), (0, .ref (ad 0))]) [0, 2] rfl ?_
            exact ih _ _
          · refine hr_iload_n hC dX6_readAll_107 rfl 0 rfl ?_
            refine hr_callVv (As := [.int (rd m72 11 ((2 : Int32) * x2).toNatClampNeg), .int (3 : Int32), .int (rd μ 11 (((2 : Int32) * x2) + (1 : Int32)).toNatClampNeg)]) (k := 0) hC rfl (tX6_puts hI n (rd m72 11 ((2 : Int32) * x2).toNatClampNeg) (3 : Int32) (rd μ 11 (((2 : Int32) * x2) + (1 : Int32)).toNatClampNeg) m72) (cwV 3 hC.1.2.2.2.2 gX6_readAll_X6_puts rfl rfl rfl (by decide +kernel) ⟨Nat.le_of_ble_eq_true rfl, Nat.le_of_ble_eq_true rfl⟩) km0 rfl rfl rfl (Nat.le_of_ble_eq_true rfl) dX6_readAll_108 (fun m108 => ?_)
            refine hr_iinc (v := (x2 + (1 : Int32))) (lv' := [(2, .int (x2 + (1 : Int32))), (3, .int (rd μ 11 (((2 : Int32) * x2) + (1 : Int32)).toNatClampNeg)), (0, .ref (ad 0))]) (kx := 1) hC dX6_readAll_111 rfl rfl (by decide) rfl ?_
            refine hr_goto (tgt := 32) hC dX6_readAll_114 (by decide) ?_
            refine hr_sub (lv' := [(2, .int (x2 + (1 : Int32))), (0, .ref (ad 0))]) [0, 2] rfl ?_
            exact ih _ _
        · refine hr_iconst (v := 0) hC dX6_readAll_71 (by decide) ?_
          refine hr_callVv (As := [.int (rd μ 11 ((2 : Int32) * x2).toNatClampNeg), .int (4 : Int32), .int (0 : Int32)]) (k := 0) hC rfl (tX6_puts hI n (rd μ 11 ((2 : Int32) * x2).toNatClampNeg) (4 : Int32) (0 : Int32) μ) (cwV 3 hC.1.2.2.2.2 gX6_readAll_X6_puts rfl rfl rfl (by decide +kernel) ⟨Nat.le_of_ble_eq_true rfl, Nat.le_of_ble_eq_true rfl⟩) km0 rfl rfl rfl (Nat.le_of_ble_eq_true rfl) dX6_readAll_72 (fun m72 => ?_)
          refine hr_aload_n hC dX6_readAll_75 rfl 2 rfl ?_
          refine hr_aload_n hC dX6_readAll_76 rfl 2 rfl ?_
          refine hr_getR hC hiX6_readAll_X6 rfl km0 14 (by decide) hmX6_readAll_42 rfl dX6_readAll_77 ?_
          refine hr_iconst (v := 2) hC dX6_readAll_80 (by decide) ?_
          refine hr_iload_n hC dX6_readAll_81 rfl 1 rfl ?_
          refine hr_imul hC dX6_readAll_82 ?_
          refine hr_iald hC km11 dX6_readAll_83 ?_
          refine hr_iconst (v := 3) hC dX6_readAll_84 (by decide) ?_
          refine hr_iload_n hC dX6_readAll_85 rfl 0 rfl ?_
          refine hr_bipush (v := -5) hC dX6_readAll_86 (by decide) ?_
          refine hr_icmp_ne (tgt := 107) hC dX6_readAll_88 (by decide) (fun _ => ?_) (fun _ => ?_)
          · refine hr_aload_n hC dX6_readAll_91 rfl 2 rfl ?_
            refine hr_aload_n hC dX6_readAll_92 rfl 2 rfl ?_
            refine hr_getR hC hiX6_readAll_X6 rfl km0 14 (by decide) hmX6_readAll_42 rfl dX6_readAll_93 ?_
            refine hr_iconst (v := 2) hC dX6_readAll_96 (by decide) ?_
            refine hr_iload_n hC dX6_readAll_97 rfl 1 rfl ?_
            refine hr_imul hC dX6_readAll_98 ?_
            refine hr_iald hC km11 dX6_readAll_99 ?_
            refine hr_iconst (v := 3) hC dX6_readAll_100 (by decide) ?_
            refine hr_callVi (As := [.int (rd m72 11 ((2 : Int32) * x2).toNatClampNeg), .int (3 : Int32)]) (k := 0) hC rfl (tX6_of hI n (rd m72 11 ((2 : Int32) * x2).toNatClampNeg) (3 : Int32) m72) (cwV 2 hC.1.2.2.2.2 gX6_readAll_X6_of rfl rfl rfl (by decide +kernel) ⟨Nat.le_of_ble_eq_true rfl, Nat.le_of_ble_eq_true rfl⟩) km0 rfl rfl rfl (Nat.le_of_ble_eq_true rfl) dX6_readAll_101 (fun r101 m101 => ?_)
            refine hr_goto (tgt := 108) hC dX6_readAll_104 (by decide) ?_
            refine hr_callVv (As := [.int (rd m72 11 ((2 : Int32) * x2).toNatClampNeg), .int (3 : Int32), .int r101]) (k := 0) hC rfl (tX6_puts hI n (rd m72 11 ((2 : Int32) * x2).toNatClampNeg) (3 : Int32) r101 m101) (cwV 3 hC.1.2.2.2.2 gX6_readAll_X6_puts rfl rfl rfl (by decide +kernel) ⟨Nat.le_of_ble_eq_true rfl, Nat.le_of_ble_eq_true rfl⟩) km0 rfl rfl rfl (Nat.le_of_ble_eq_true rfl) dX6_readAll_108 (fun m108 => ?_)
            refine hr_iinc (v := (x2 + (1 : Int32))) (lv' := [(2, .int (x2 + (1 : Int32))), (3, .int (rd μ 11 (((2 : Int32) * x2) + (1 : Int32)).toNatClampNeg)), (0, .ref (ad 0))]) (kx := 1) hC dX6_readAll_111 rfl rfl (by decide) rfl ?_
            refine hr_goto (tgt := 32) hC dX6_readAll_114 (by decide) ?_
            refine hr_sub (lv' := [(2, .int (x2 + (1 : Int32))), (0, .ref (ad 0))]) [0, 2] rfl ?_
            exact ih _ _
          · refine hr_iload_n hC dX6_readAll_107 rfl 0 rfl ?_
            refine hr_callVv (As := [.int (rd m72 11 ((2 : Int32) * x2).toNatClampNeg), .int (3 : Int32), .int (rd μ 11 (((2 : Int32) * x2) + (1 : Int32)).toNatClampNeg)]) (k := 0) hC rfl (tX6_puts hI n (rd m72 11 ((2 : Int32) * x2).toNatClampNeg) (3 : Int32) (rd μ 11 (((2 : Int32) * x2) + (1 : Int32)).toNatClampNeg) m72) (cwV 3 hC.1.2.2.2.2 gX6_readAll_X6_puts rfl rfl rfl (by decide +kernel) ⟨Nat.le_of_ble_eq_true rfl, Nat.le_of_ble_eq_true rfl⟩) km0 rfl rfl rfl (Nat.le_of_ble_eq_true rfl) dX6_readAll_108 (fun m108 => ?_)
            refine hr_iinc (v := (x2 + (1 : Int32))) (lv' := [(2, .int (x2 + (1 : Int32))), (3, .int (rd μ 11 (((2 : Int32) * x2) + (1 : Int32)).toNatClampNeg)), (0, .ref (ad 0))]) (kx := 1) hC dX6_readAll_111 rfl rfl (by decide) rfl ?_
            refine hr_goto (tgt := 32) hC dX6_readAll_114 (by decide) ?_
            refine hr_sub (lv' := [(2, .int (x2 + (1 : Int32))), (0, .ref (ad 0))]) [0, 2] rfl ?_
            exact ih _ _
  rw [fX6_readAll]
  refine hr_aload_n hC dX6_readAll_0 rfl 0 rfl ?_
  refine hr_callVi (As := []) (k := 0) hC rfl (tX6_isText hI n μ) (cwV 0 hC.1.2.2.2.2 gX6_readAll_X6_isText rfl rfl rfl (by decide +kernel) ⟨Nat.le_of_ble_eq_true rfl, Nat.le_of_ble_eq_true rfl⟩) km0 rfl rfl rfl (Nat.le_of_ble_eq_true rfl) dX6_readAll_1 (fun r1 m1 => ?_)
  refine hr_if_ne (tgt := 15) hC dX6_readAll_4 (by decide) (fun _ => ?_) (fun _ => ?_)
  · refine hr_bipush (v := -100) hC dX6_readAll_7 (by decide) ?_
    refine hr_aload_n hC dX6_readAll_9 rfl 0 rfl ?_
    refine hr_getI hC hiX6_readAll_X6 rfl km0 13 (by decide) hmX6_readAll_146 rfl dX6_readAll_10 ?_
    refine hr_isub hC dX6_readAll_13 ?_
    exact hr_ireti hC hr dX6_readAll_14
  · refine hr_aload_n hC dX6_readAll_15 rfl 0 rfl ?_
    refine hr_callVi (As := []) (k := 0) hC rfl (tX6_refusal hI n m1) (cwV 0 hC.1.2.2.2.2 gX6_readAll_X6_refusal rfl rfl rfl (by decide +kernel) ⟨Nat.le_of_ble_eq_true rfl, Nat.le_of_ble_eq_true rfl⟩) km0 rfl rfl rfl (Nat.le_of_ble_eq_true rfl) dX6_readAll_16 (fun r16 m16 => ?_)
    refine hr_istore_n (lv' := [(1, .int r16), (0, .ref (ad 0))]) hC dX6_readAll_19 rfl (by decide) rfl ?_
    refine hr_iload_n hC dX6_readAll_20 rfl 0 rfl ?_
    refine hr_if_ge (tgt := 26) hC dX6_readAll_21 (by decide) (fun _ => ?_) (fun _ => ?_)
    · refine hr_aload_n hC dX6_readAll_26 rfl 1 rfl ?_
      refine hr_callVv (As := []) (k := 0) hC rfl (tX6_records hI n m16) (cwV 0 hC.1.2.2.2.2 gX6_readAll_X6_records rfl rfl rfl (by decide +kernel) ⟨Nat.le_of_ble_eq_true rfl, Nat.le_of_ble_eq_true rfl⟩) km0 rfl rfl rfl (Nat.le_of_ble_eq_true rfl) dX6_readAll_27 (fun m27 => ?_)
      refine hr_iconst (v := 0) hC dX6_readAll_30 (by decide) ?_
      refine hr_istore_n (lv' := [(2, .int (0 : Int32)), (1, .int r16), (0, .ref (ad 0))]) hC dX6_readAll_31 rfl (by decide) rfl ?_
      refine hr_sub (lv' := [(2, .int (0 : Int32)), (0, .ref (ad 0))]) [0, 2] rfl ?_
      refine L32 _ (fun x2_32 m32 => ?_) _ _ _
      refine hr_aload_n hC dX6_readAll_117 rfl 1 rfl ?_
      refine hr_getI hC hiX6_readAll_X6 rfl km0 15 (by decide) hmX6_readAll_160 rfl dX6_readAll_118 ?_
      exact hr_ireti hC hr dX6_readAll_121
    · refine hr_iload_n hC dX6_readAll_24 rfl 0 rfl ?_
      exact hr_ireti hC hr dX6_readAll_25
theorem hmX6_devicesOf_7 : Cond.fieldLink RX6 7 "HeatBillsModel" "s" "[I" ∈ wsX6_devicesOf := List.mem_of_getElem? (i := 1) rfl
theorem hiX6_devicesOf_X6 : ∀ w ∈ wsX60, w ∈ wsX6_devicesOf := fun _ h => List.mem_cons_of_mem _ (List.mem_append_right _ h)
def lX6_devicesOf_4 (n : Nat) (p1 : Int32) (k : Int32 → Int32 → hb_m → Option (Int32 × hb_m)) : Nat → Int32 → Int32 → hb_m → Option (Int32 × hb_m)
  | 0, _, _, _ => none
  | f + 1, x3, x2, μ => if ib (1 : Int32) 415 then
if (rd μ 1 (1 : Int32).toNatClampNeg) ≤ x3 then
(k x3 x2 μ)
else
(bi (fX6_of n x3 (0 : Int32) μ) (fun r18 m18 =>
if r18 = p1 then
(lX6_devicesOf_4 n p1 k f (x3 + (1 : Int32)) (x2 ||| ((1 : Int32) <<< (x3 &&& 31))) m18)
else
(lX6_devicesOf_4 n p1 k f (x3 + (1 : Int32)) (x2 ||| (0 : Int32)) m18)))
else none
def fX6_devicesOf (n : Nat) (p1 : Int32) (μ : hb_m) : Option (Int32 × hb_m) :=
lX6_devicesOf_4 n p1 (fun x3_4 x2_4 m4 =>
some (x2_4, m4)) n (0 : Int32) (0 : Int32) μ
abbrev rmX6_devicesOf : Room := { frames := 1, cells := 0, slots := 0, locals := 22 }
set_option maxRecDepth 100000 in
set_option maxHeartbeats 4000000 in
theorem tX6_devicesOf {l : Launch} {D : va_G} {ad : Nat → Nat} {dA : Nat → ClassId} (hI : hb_I 12 ad) (n : Nat) (p1 : Int32) (μ : hb_m) : hb_M (hb_Qi vwCl kdM 12 ad D dA) l yX6_devicesOf wsX6_devicesOf rmX6_devicesOf vwCl kdM 12 ad D dA [] [] [.ref (ad 0), .int p1] μ (fX6_devicesOf n p1 μ) := by
  refine hb_start (cc := cX6_devicesOf) (maxL := 4) (ret := (some .int)) (by decide) rfl hI (Nat.le_of_ble_eq_true rfl) [(0, .ref (ad 0)), (1, .int p1)] rfl ?_
  intro p e s m args below meth c hC hr
  have L4 : ∀ (k : Int32 → Int32 → hb_m → Option (Int32 × hb_m)) (hk : ∀ (x3 : Int32) (x2 : Int32) (μ : hb_m), hb_V p l e rmX6_devicesOf s m args below meth c 4 vwCl kdM 12 ad D dA (hb_Qi vwCl kdM 12 ad D dA) μ 40 [(3, .int x3), (2, .int x2), (0, .ref (ad 0)), (1, .int p1)] [] (k x3 x2 μ)) (f : Nat) (x3 : Int32) (x2 : Int32) (μ : hb_m), hb_V p l e rmX6_devicesOf s m args below meth c 4 vwCl kdM 12 ad D dA (hb_Qi vwCl kdM 12 ad D dA) μ 4 [(3, .int x3), (2, .int x2), (0, .ref (ad 0)), (1, .int p1)] [] (lX6_devicesOf_4 n p1 k f x3 x2 μ) := by
    intro k hk f
    induction f with
    | zero => intro x3 x2 μ; rw [lX6_devicesOf_4]; exact hr_none
    | succ f ih =>
      intro x3 x2 μ
      rw [lX6_devicesOf_4]
      refine hr_iload_n hC dX6_devicesOf_4 rfl 0 rfl ?_
      refine hr_aload_n hC dX6_devicesOf_5 rfl 2 rfl ?_
      refine hr_getR hC hiX6_devicesOf_X6 rfl km0 0 (by decide) hmX6_devicesOf_7 rfl dX6_devicesOf_6 ?_
      refine hr_iconst (v := 1) hC dX6_devicesOf_9 (by decide) ?_
      refine hr_iald hC km1 dX6_devicesOf_10 ?_
      refine hr_icmp_ge (tgt := 40) hC dX6_devicesOf_11 (by decide) (fun _ => ?_) (fun _ => ?_)
      · refine hr_sub (lv' := [(3, .int x3), (2, .int x2), (0, .ref (ad 0)), (1, .int p1)]) [0, 1, 2, 3] rfl ?_
        exact hk _ _ _
      · refine hr_iload_n hC dX6_devicesOf_14 rfl 1 rfl ?_
        refine hr_aload_n hC dX6_devicesOf_15 rfl 2 rfl ?_
        refine hr_iload_n hC dX6_devicesOf_16 rfl 0 rfl ?_
        refine hr_iconst (v := 0) hC dX6_devicesOf_17 (by decide) ?_
        refine hr_callVi (As := [.int x3, .int (0 : Int32)]) (k := 0) hC rfl (tX6_of hI n x3 (0 : Int32) μ) (cwV 2 hC.1.2.2.2.2 gX6_devicesOf_X6_of rfl rfl rfl (by decide +kernel) ⟨Nat.le_of_ble_eq_true rfl, Nat.le_of_ble_eq_true rfl⟩) km0 rfl rfl rfl (Nat.le_of_ble_eq_true rfl) dX6_devicesOf_18 (fun r18 m18 => ?_)
        refine hr_iload_n hC dX6_devicesOf_21 rfl 3 rfl ?_
        refine hr_icmp_ne (tgt := 31) hC dX6_devicesOf_22 (by decide) (fun _ => ?_) (fun _ => ?_)
        · refine hr_iconst (v := 1) hC dX6_devicesOf_25 (by decide) ?_
          refine hr_iload_n hC dX6_devicesOf_26 rfl 0 rfl ?_
          refine hr_ishl hC dX6_devicesOf_27 ?_
          refine hr_goto (tgt := 32) hC dX6_devicesOf_28 (by decide) ?_
          refine hr_ior hC dX6_devicesOf_32 ?_
          refine hr_istore_n (lv' := [(2, .int (x2 ||| ((1 : Int32) <<< (x3 &&& 31)))), (3, .int x3), (0, .ref (ad 0)), (1, .int p1)]) hC dX6_devicesOf_33 rfl (by decide) rfl ?_
          refine hr_iinc (v := (x3 + (1 : Int32))) (lv' := [(3, .int (x3 + (1 : Int32))), (2, .int (x2 ||| ((1 : Int32) <<< (x3 &&& 31)))), (0, .ref (ad 0)), (1, .int p1)]) (kx := 1) hC dX6_devicesOf_34 rfl rfl (by decide) rfl ?_
          refine hr_goto (tgt := 4) hC dX6_devicesOf_37 (by decide) ?_
          refine hr_sub (lv' := [(3, .int (x3 + (1 : Int32))), (2, .int (x2 ||| ((1 : Int32) <<< (x3 &&& 31)))), (0, .ref (ad 0)), (1, .int p1)]) [0, 1, 2, 3] rfl ?_
          exact ih _ _ _
        · refine hr_iconst (v := 0) hC dX6_devicesOf_31 (by decide) ?_
          refine hr_ior hC dX6_devicesOf_32 ?_
          refine hr_istore_n (lv' := [(2, .int (x2 ||| (0 : Int32))), (3, .int x3), (0, .ref (ad 0)), (1, .int p1)]) hC dX6_devicesOf_33 rfl (by decide) rfl ?_
          refine hr_iinc (v := (x3 + (1 : Int32))) (lv' := [(3, .int (x3 + (1 : Int32))), (2, .int (x2 ||| (0 : Int32))), (0, .ref (ad 0)), (1, .int p1)]) (kx := 1) hC dX6_devicesOf_34 rfl rfl (by decide) rfl ?_
          refine hr_goto (tgt := 4) hC dX6_devicesOf_37 (by decide) ?_
          refine hr_sub (lv' := [(3, .int (x3 + (1 : Int32))), (2, .int (x2 ||| (0 : Int32))), (0, .ref (ad 0)), (1, .int p1)]) [0, 1, 2, 3] rfl ?_
          exact ih _ _ _
  rw [fX6_devicesOf]
  refine hr_iconst (v := 0) hC dX6_devicesOf_0 (by decide) ?_
  refine hr_istore_n (lv' := [(2, .int (0 : Int32)), (0, .ref (ad 0)), (1, .int p1)]) hC dX6_devicesOf_1 rfl (by decide) rfl ?_
  refine hr_iconst (v := 0) hC dX6_devicesOf_2 (by decide) ?_
  refine hr_istore_n (lv' := [(3, .int (0 : Int32)), (2, .int (0 : Int32)), (0, .ref (ad 0)), (1, .int p1)]) hC dX6_devicesOf_3 rfl (by decide) rfl ?_
  refine hr_sub (lv' := [(3, .int (0 : Int32)), (2, .int (0 : Int32)), (0, .ref (ad 0)), (1, .int p1)]) [0, 1, 2, 3] rfl ?_
  refine L4 _ (fun x3_4 x2_4 m4 => ?_) _ _ _ _
  refine hr_iload_n hC dX6_devicesOf_40 rfl 1 rfl ?_
  exact hr_ireti hC hr dX6_devicesOf_41
theorem hmX6_flat_7 : Cond.fieldLink RX6 7 "HeatBillsModel" "s" "[I" ∈ wsX6_flat := List.mem_of_getElem? (i := 1) rfl
theorem hmX6_flat_33 : Cond.fieldLink RX6 33 "HeatBillsModel" "units" "[I" ∈ wsX6_flat := List.mem_of_getElem? (i := 2) rfl
theorem hmX6_flat_36 : Cond.fieldLink RX6 36 "HeatBillsModel" "bases" "[I" ∈ wsX6_flat := List.mem_of_getElem? (i := 3) rfl
theorem hmX6_flat_39 : Cond.fieldLink RX6 39 "HeatBillsModel" "used" "[I" ∈ wsX6_flat := List.mem_of_getElem? (i := 4) rfl
theorem hiX6_flat_X6 : ∀ w ∈ wsX60, w ∈ wsX6_flat := fun _ h => List.mem_cons_of_mem _ (List.mem_append_right _ h)
def fX6_flat (n : Nat) (p1 : Int32) (p2 : Int32) (μ : hb_m) : Option (Int32 × hb_m) :=
bi (fX6_isFlat n p1 μ) (fun r2 m2 =>
if r2 = 0 then
(some ((-1 : Int32), m2))
else
(if ib (4 : Int32) 415 then
bv (fX6_laysOpen n (rd m2 1 (4 : Int32).toNatClampNeg) m2) (fun m17 =>
if p2 = 0 then
(bi (fX6_ofFlat n p1 (0 : Int32) m17) (fun r71 m71 =>
some (r71, m71)))
else if p2 = 1 then
(bi (fX6_devicesOf n p1 m17) (fun r77 m77 =>
some (r77, m77)))
else if p2 = 2 then
(if ib p1 8 then
some ((rd m17 8 p1.toNatClampNeg), m17)
else none)
else if p2 = 3 then
(if ib p1 8 then
some ((rd m17 9 p1.toNatClampNeg), m17)
else none)
else if p2 = 4 then
(if ib p1 8 then
some ((rd m17 10 p1.toNatClampNeg), m17)
else none)
else if p2 = 5 then
(if ib p1 8 then
if ib p1 8 then
some (((rd m17 9 p1.toNatClampNeg) + (rd m17 10 p1.toNatClampNeg)), m17)
else none
else none)
else if p2 = 6 then
(bi (fX6_ofFlat n p1 (1 : Int32) m17) (fun r119 m119 =>
if r119 = 0 then
(some ((-5 : Int32), m119))
else
(bi (fX6_ofFlat n p1 (1 : Int32) m119) (fun r133 m133 =>
some (r133, m133)))))
else if p2 = 7 then
(bi (fX6_ofFlat n p1 (2 : Int32) m17) (fun r140 m140 =>
some (r140, m140)))
else 
(some ((-2 : Int32), m17)))
else none))
abbrev rmX6_flat : Room := { frames := 6, cells := 0, slots := 0, locals := 133 }
set_option maxRecDepth 100000 in
set_option maxHeartbeats 4000000 in
theorem tX6_flat {l : Launch} {D : va_G} {ad : Nat → Nat} {dA : Nat → ClassId} (hI : hb_I 12 ad) (n : Nat) (p1 : Int32) (p2 : Int32) (μ : hb_m) : hb_M (hb_Qi vwCl kdM 12 ad D dA) l yX6_flat wsX6_flat rmX6_flat vwCl kdM 12 ad D dA [] [] [.ref (ad 0), .int p1, .int p2] μ (fX6_flat n p1 p2 μ) := by
  refine hb_start (cc := cX6_flat) (maxL := 3) (ret := (some .int)) (by decide) rfl hI (Nat.le_of_ble_eq_true rfl) [(0, .ref (ad 0)), (1, .int p1), (2, .int p2)] rfl ?_
  intro p e s m args below meth c hC hr
  rw [fX6_flat]
  refine hr_aload_n hC dX6_flat_0 rfl 0 rfl ?_
  refine hr_iload_n hC dX6_flat_1 rfl 1 rfl ?_
  refine hr_callVi (As := [.int p1]) (k := 0) hC rfl (tX6_isFlat hI n p1 μ) (cwV 1 hC.1.2.2.2.2 gX6_flat_X6_isFlat rfl rfl rfl (by decide +kernel) ⟨Nat.le_of_ble_eq_true rfl, Nat.le_of_ble_eq_true rfl⟩) km0 rfl rfl rfl (Nat.le_of_ble_eq_true rfl) dX6_flat_2 (fun r2 m2 => ?_)
  refine hr_if_ne (tgt := 10) hC dX6_flat_5 (by decide) (fun _ => ?_) (fun _ => ?_)
  · refine hr_iconst (v := -1) hC dX6_flat_8 (by decide) ?_
    exact hr_ireti hC hr dX6_flat_9
  · refine hr_aload_n hC dX6_flat_10 rfl 0 rfl ?_
    refine hr_aload_n hC dX6_flat_11 rfl 0 rfl ?_
    refine hr_getR hC hiX6_flat_X6 rfl km0 0 (by decide) hmX6_flat_7 rfl dX6_flat_12 ?_
    refine hr_iconst (v := 4) hC dX6_flat_15 (by decide) ?_
    refine hr_iald hC km1 dX6_flat_16 ?_
    refine hr_callVv (As := [.int (rd m2 1 (4 : Int32).toNatClampNeg)]) (k := 0) hC rfl (tX6_laysOpen hI n (rd m2 1 (4 : Int32).toNatClampNeg) m2) (cwV 1 hC.1.2.2.2.2 gX6_flat_X6_laysOpen rfl rfl rfl (by decide +kernel) ⟨Nat.le_of_ble_eq_true rfl, Nat.le_of_ble_eq_true rfl⟩) km0 rfl rfl rfl (Nat.le_of_ble_eq_true rfl) dX6_flat_17 (fun m17 => ?_)
    refine hr_iload_n hC dX6_flat_20 rfl 2 rfl ?_
    refine hr_swIn (tgt := 68) (off := 47) (v := 0) hC dX6_flat_21 (by decide) (by decide) (by decide) (by decide) ?_ (fun g0 => ?_)
    · refine hr_aload_n hC dX6_flat_68 rfl 0 rfl ?_
      refine hr_iload_n hC dX6_flat_69 rfl 1 rfl ?_
      refine hr_iconst (v := 0) hC dX6_flat_70 (by decide) ?_
      refine hr_callVi (As := [.int p1, .int (0 : Int32)]) (k := 0) hC rfl (tX6_ofFlat hI n p1 (0 : Int32) m17) (cwV 2 hC.1.2.2.2.2 gX6_flat_X6_ofFlat rfl rfl rfl (by decide +kernel) ⟨Nat.le_of_ble_eq_true rfl, Nat.le_of_ble_eq_true rfl⟩) km0 rfl rfl rfl (Nat.le_of_ble_eq_true rfl) dX6_flat_71 (fun r71 m71 => ?_)
      exact hr_ireti hC hr dX6_flat_74
    refine hr_swIn (tgt := 75) (off := 54) (v := 1) hC dX6_flat_21 (by decide) (by decide) (by decide) (by decide) ?_ (fun g1 => ?_)
    · refine hr_aload_n hC dX6_flat_75 rfl 0 rfl ?_
      refine hr_iload_n hC dX6_flat_76 rfl 1 rfl ?_
      refine hr_callVi (As := [.int p1]) (k := 0) hC rfl (tX6_devicesOf hI n p1 m17) (cwV 1 hC.1.2.2.2.2 gX6_flat_X6_devicesOf rfl rfl rfl (by decide +kernel) ⟨Nat.le_of_ble_eq_true rfl, Nat.le_of_ble_eq_true rfl⟩) km0 rfl rfl rfl (Nat.le_of_ble_eq_true rfl) dX6_flat_77 (fun r77 m77 => ?_)
      exact hr_ireti hC hr dX6_flat_80
    refine hr_swIn (tgt := 81) (off := 60) (v := 2) hC dX6_flat_21 (by decide) (by decide) (by decide) (by decide) ?_ (fun g2 => ?_)
    · refine hr_aload_n hC dX6_flat_81 rfl 0 rfl ?_
      refine hr_getR hC hiX6_flat_X6 rfl km0 10 (by decide) hmX6_flat_33 rfl dX6_flat_82 ?_
      refine hr_iload_n hC dX6_flat_85 rfl 1 rfl ?_
      refine hr_iald hC km8 dX6_flat_86 ?_
      exact hr_ireti hC hr dX6_flat_87
    refine hr_swIn (tgt := 88) (off := 67) (v := 3) hC dX6_flat_21 (by decide) (by decide) (by decide) (by decide) ?_ (fun g3 => ?_)
    · refine hr_aload_n hC dX6_flat_88 rfl 0 rfl ?_
      refine hr_getR hC hiX6_flat_X6 rfl km0 11 (by decide) hmX6_flat_36 rfl dX6_flat_89 ?_
      refine hr_iload_n hC dX6_flat_92 rfl 1 rfl ?_
      refine hr_iald hC km9 dX6_flat_93 ?_
      exact hr_ireti hC hr dX6_flat_94
    refine hr_swIn (tgt := 95) (off := 74) (v := 4) hC dX6_flat_21 (by decide) (by decide) (by decide) (by decide) ?_ (fun g4 => ?_)
    · refine hr_aload_n hC dX6_flat_95 rfl 0 rfl ?_
      refine hr_getR hC hiX6_flat_X6 rfl km0 12 (by decide) hmX6_flat_39 rfl dX6_flat_96 ?_
      refine hr_iload_n hC dX6_flat_99 rfl 1 rfl ?_
      refine hr_iald hC km10 dX6_flat_100 ?_
      exact hr_ireti hC hr dX6_flat_101
    refine hr_swIn (tgt := 102) (off := 81) (v := 5) hC dX6_flat_21 (by decide) (by decide) (by decide) (by decide) ?_ (fun g5 => ?_)
    · refine hr_aload_n hC dX6_flat_102 rfl 0 rfl ?_
      refine hr_getR hC hiX6_flat_X6 rfl km0 11 (by decide) hmX6_flat_36 rfl dX6_flat_103 ?_
      refine hr_iload_n hC dX6_flat_106 rfl 1 rfl ?_
      refine hr_iald hC km9 dX6_flat_107 ?_
      refine hr_aload_n hC dX6_flat_108 rfl 0 rfl ?_
      refine hr_getR hC hiX6_flat_X6 rfl km0 12 (by decide) hmX6_flat_39 rfl dX6_flat_109 ?_
      refine hr_iload_n hC dX6_flat_112 rfl 1 rfl ?_
      refine hr_iald hC km10 dX6_flat_113 ?_
      refine hr_iadd hC dX6_flat_114 ?_
      exact hr_ireti hC hr dX6_flat_115
    refine hr_swIn (tgt := 116) (off := 95) (v := 6) hC dX6_flat_21 (by decide) (by decide) (by decide) (by decide) ?_ (fun g6 => ?_)
    · refine hr_aload_n hC dX6_flat_116 rfl 0 rfl ?_
      refine hr_iload_n hC dX6_flat_117 rfl 1 rfl ?_
      refine hr_iconst (v := 1) hC dX6_flat_118 (by decide) ?_
      refine hr_callVi (As := [.int p1, .int (1 : Int32)]) (k := 0) hC rfl (tX6_ofFlat hI n p1 (1 : Int32) m17) (cwV 2 hC.1.2.2.2.2 gX6_flat_X6_ofFlat rfl rfl rfl (by decide +kernel) ⟨Nat.le_of_ble_eq_true rfl, Nat.le_of_ble_eq_true rfl⟩) km0 rfl rfl rfl (Nat.le_of_ble_eq_true rfl) dX6_flat_119 (fun r119 m119 => ?_)
      refine hr_if_ne (tgt := 130) hC dX6_flat_122 (by decide) (fun _ => ?_) (fun _ => ?_)
      · refine hr_bipush (v := -5) hC dX6_flat_125 (by decide) ?_
        refine hr_goto (tgt := 136) hC dX6_flat_127 (by decide) ?_
        exact hr_ireti hC hr dX6_flat_136
      · refine hr_aload_n hC dX6_flat_130 rfl 0 rfl ?_
        refine hr_iload_n hC dX6_flat_131 rfl 1 rfl ?_
        refine hr_iconst (v := 1) hC dX6_flat_132 (by decide) ?_
        refine hr_callVi (As := [.int p1, .int (1 : Int32)]) (k := 0) hC rfl (tX6_ofFlat hI n p1 (1 : Int32) m119) (cwV 2 hC.1.2.2.2.2 gX6_flat_X6_ofFlat rfl rfl rfl (by decide +kernel) ⟨Nat.le_of_ble_eq_true rfl, Nat.le_of_ble_eq_true rfl⟩) km0 rfl rfl rfl (Nat.le_of_ble_eq_true rfl) dX6_flat_133 (fun r133 m133 => ?_)
        exact hr_ireti hC hr dX6_flat_136
    refine hr_swIn (tgt := 137) (off := 116) (v := 7) hC dX6_flat_21 (by decide) (by decide) (by decide) (by decide) ?_ (fun g7 => ?_)
    · refine hr_aload_n hC dX6_flat_137 rfl 0 rfl ?_
      refine hr_iload_n hC dX6_flat_138 rfl 1 rfl ?_
      refine hr_iconst (v := 2) hC dX6_flat_139 (by decide) ?_
      refine hr_callVi (As := [.int p1, .int (2 : Int32)]) (k := 0) hC rfl (tX6_ofFlat hI n p1 (2 : Int32) m17) (cwV 2 hC.1.2.2.2.2 gX6_flat_X6_ofFlat rfl rfl rfl (by decide +kernel) ⟨Nat.le_of_ble_eq_true rfl, Nat.le_of_ble_eq_true rfl⟩) km0 rfl rfl rfl (Nat.le_of_ble_eq_true rfl) dX6_flat_140 (fun r140 m140 => ?_)
      exact hr_ireti hC hr dX6_flat_143
    refine hr_swOut (tgt := 144) hC dX6_flat_21 (by have e0 := lv_neT g0 (a := 0) rfl; have e1 := lv_neT g1 (a := 1) rfl; have e2 := lv_neT g2 (a := 2) rfl; have e3 := lv_neT g3 (a := 3) rfl; have e4 := lv_neT g4 (a := 4) rfl; have e5 := lv_neT g5 (a := 5) rfl; have e6 := lv_neT g6 (a := 6) rfl; have e7 := lv_neT g7 (a := 7) rfl; omega) (by decide) ?_
    refine hr_bipush (v := -2) hC dX6_flat_144 (by decide) ?_
    exact hr_ireti hC hr dX6_flat_146
def fX6_device (n : Nat) (p1 : Int32) (p2 : Int32) (μ : hb_m) : Option (Int32 × hb_m) :=
bi (fX6_isDevice n p1 μ) (fun r2 m2 =>
if r2 = 0 then
(some ((-1 : Int32), m2))
else
(bi (fX6_in n p2 (0 : Int32) (5 : Int32) m2) (fun r13 m13 =>
if r13 = 0 then
(some ((-2 : Int32), m13))
else
(if p2 = (5 : Int32) then
(bi (fX6_unitsNow n p1 m13) (fun r31 m31 =>
some (r31, m31)))
else
(bi (fX6_of n p1 p2 m13) (fun r40 m40 =>
some (r40, m40)))))))
abbrev rmX6_device : Room := { frames := 4, cells := 0, slots := 0, locals := 91 }
set_option maxRecDepth 100000 in
set_option maxHeartbeats 4000000 in
theorem tX6_device {l : Launch} {D : va_G} {ad : Nat → Nat} {dA : Nat → ClassId} (hI : hb_I 12 ad) (n : Nat) (p1 : Int32) (p2 : Int32) (μ : hb_m) : hb_M (hb_Qi vwCl kdM 12 ad D dA) l yX6_device wsX6_device rmX6_device vwCl kdM 12 ad D dA [] [] [.ref (ad 0), .int p1, .int p2] μ (fX6_device n p1 p2 μ) := by
  refine hb_start (cc := cX6_device) (maxL := 3) (ret := (some .int)) (by decide) rfl hI (Nat.le_of_ble_eq_true rfl) [(0, .ref (ad 0)), (1, .int p1), (2, .int p2)] rfl ?_
  intro p e s m args below meth c hC hr
  rw [fX6_device]
  refine hr_aload_n hC dX6_device_0 rfl 0 rfl ?_
  refine hr_iload_n hC dX6_device_1 rfl 1 rfl ?_
  refine hr_callVi (As := [.int p1]) (k := 0) hC rfl (tX6_isDevice hI n p1 μ) (cwV 1 hC.1.2.2.2.2 gX6_device_X6_isDevice rfl rfl rfl (by decide +kernel) ⟨Nat.le_of_ble_eq_true rfl, Nat.le_of_ble_eq_true rfl⟩) km0 rfl rfl rfl (Nat.le_of_ble_eq_true rfl) dX6_device_2 (fun r2 m2 => ?_)
  refine hr_if_ne (tgt := 10) hC dX6_device_5 (by decide) (fun _ => ?_) (fun _ => ?_)
  · refine hr_iconst (v := -1) hC dX6_device_8 (by decide) ?_
    exact hr_ireti hC hr dX6_device_9
  · refine hr_iload_n hC dX6_device_10 rfl 2 rfl ?_
    refine hr_iconst (v := 0) hC dX6_device_11 (by decide) ?_
    refine hr_iconst (v := 5) hC dX6_device_12 (by decide) ?_
    refine hr_callSi (As := [.int p2, .int (0 : Int32), .int (5 : Int32)]) hC rfl (tX6_in hI n p2 (0 : Int32) (5 : Int32) m2) (va_cwS 3 hC.1.2.2.2.2 gX6_device_X6_in rfl rfl rfl (by decide +kernel) ⟨Nat.le_of_ble_eq_true rfl, Nat.le_of_ble_eq_true rfl⟩) rfl (Nat.le_of_ble_eq_true rfl) dX6_device_13 (fun r13 m13 => ?_)
    refine hr_if_ne (tgt := 24) hC dX6_device_16 (by decide) (fun _ => ?_) (fun _ => ?_)
    · refine hr_bipush (v := -2) hC dX6_device_19 (by decide) ?_
      refine hr_goto (tgt := 43) hC dX6_device_21 (by decide) ?_
      exact hr_ireti hC hr dX6_device_43
    · refine hr_iload_n hC dX6_device_24 rfl 2 rfl ?_
      refine hr_iconst (v := 5) hC dX6_device_25 (by decide) ?_
      refine hr_icmp_ne (tgt := 37) hC dX6_device_26 (by decide) (fun _ => ?_) (fun _ => ?_)
      · refine hr_aload_n hC dX6_device_29 rfl 0 rfl ?_
        refine hr_iload_n hC dX6_device_30 rfl 1 rfl ?_
        refine hr_callVi (As := [.int p1]) (k := 0) hC rfl (tX6_unitsNow hI n p1 m13) (cwV 1 hC.1.2.2.2.2 gX6_device_X6_unitsNow rfl rfl rfl (by decide +kernel) ⟨Nat.le_of_ble_eq_true rfl, Nat.le_of_ble_eq_true rfl⟩) km0 rfl rfl rfl (Nat.le_of_ble_eq_true rfl) dX6_device_31 (fun r31 m31 => ?_)
        refine hr_goto (tgt := 43) hC dX6_device_34 (by decide) ?_
        exact hr_ireti hC hr dX6_device_43
      · refine hr_aload_n hC dX6_device_37 rfl 0 rfl ?_
        refine hr_iload_n hC dX6_device_38 rfl 1 rfl ?_
        refine hr_iload_n hC dX6_device_39 rfl 2 rfl ?_
        refine hr_callVi (As := [.int p1, .int p2]) (k := 0) hC rfl (tX6_of hI n p1 p2 m13) (cwV 2 hC.1.2.2.2.2 gX6_device_X6_of rfl rfl rfl (by decide +kernel) ⟨Nat.le_of_ble_eq_true rfl, Nat.le_of_ble_eq_true rfl⟩) km0 rfl rfl rfl (Nat.le_of_ble_eq_true rfl) dX6_device_40 (fun r40 m40 => ?_)
        exact hr_ireti hC hr dX6_device_43

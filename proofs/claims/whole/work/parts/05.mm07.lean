theorem hmX6_count_7 : Cond.fieldLink RX6 7 "HeatBillsModel" "s" "[I" ∈ wsX6_count := List.mem_of_getElem? (i := 1) rfl
theorem hmX6_count_45 : Cond.fieldLink RX6 45 "HeatBillsModel" "saved" "I" ∈ wsX6_count := List.mem_of_getElem? (i := 2) rfl
theorem hmX6_count_143 : Cond.fieldLink RX6 143 "HeatBillsModel" "length" "I" ∈ wsX6_count := List.mem_of_getElem? (i := 3) rfl
theorem hiX6_count_X6 : ∀ w ∈ wsX60, w ∈ wsX6_count := fun _ h => List.mem_cons_of_mem _ (List.mem_append_right _ h)
def fX6_count (n : Nat) (p1 : Int32) (μ : hb_m) : Option (Int32 × hb_m) :=
if p1 = 0 then
(if ib (2 : Int32) 415 then
some ((rd μ 1 (2 : Int32).toNatClampNeg), μ)
else none)
else if p1 = 1 then
(if ib (0 : Int32) 415 then
some ((rd μ 1 (0 : Int32).toNatClampNeg), μ)
else none)
else if p1 = 2 then
(if ib (1 : Int32) 415 then
some ((rd μ 1 (1 : Int32).toNatClampNeg), μ)
else none)
else if p1 = 3 then
(bi (fX6_faulty n μ) (fun r98 m98 =>
some (r98, m98)))
else if p1 = 4 then
(if ib (((3 : Int32) + p1) - (4 : Int32)) 415 then
some ((rd μ 1 (((3 : Int32) + p1) - (4 : Int32)).toNatClampNeg), μ)
else none)
else if p1 = 5 then
(if ib (((3 : Int32) + p1) - (4 : Int32)) 415 then
some ((rd μ 1 (((3 : Int32) + p1) - (4 : Int32)).toNatClampNeg), μ)
else none)
else if p1 = 6 then
(if ib (((3 : Int32) + p1) - (4 : Int32)) 415 then
some ((rd μ 1 (((3 : Int32) + p1) - (4 : Int32)).toNatClampNeg), μ)
else none)
else if p1 = 7 then
(bi (fX6_areas n μ) (fun r114 m114 =>
some (r114, m114)))
else if p1 = 8 then
(bi (fX6_allUnits n μ) (fun r119 m119 =>
some (r119, m119)))
else if p1 = 9 then
(bi (fX6_openBills n μ) (fun r124 m124 =>
some (r124, m124)))
else if p1 = 10 then
(bi (fX6_oldBills n μ) (fun r129 m129 =>
some (r129, m129)))
else if p1 = 11 then
(if ib (6 : Int32) 415 then
some ((rd μ 1 (6 : Int32).toNatClampNeg), μ)
else none)
else if p1 = 12 then
(bi (fX6_moves n μ) (fun r142 m142 =>
some (r142, m142)))
else if p1 = 13 then
(some ((rd μ 0 2), μ))
else if p1 = 14 then
(some ((rd μ 0 6), μ))
else 
(some ((-2 : Int32), μ))
abbrev rmX6_count : Room := { frames := 7, cells := 0, slots := 0, locals := 155 }
set_option maxRecDepth 100000 in
set_option maxHeartbeats 4000000 in
theorem tX6_count {l : Launch} {D : va_G} {ad : Nat → Nat} {dA : Nat → ClassId} (hI : hb_I 12 ad) (n : Nat) (p1 : Int32) (μ : hb_m) : hb_M (hb_Qi vwCl kdM 12 ad D dA) l yX6_count wsX6_count rmX6_count vwCl kdM 12 ad D dA [] [] [.ref (ad 0), .int p1] μ (fX6_count n p1 μ) := by
  refine hb_start (cc := cX6_count) (maxL := 2) (ret := (some .int)) (by decide) rfl hI (Nat.le_of_ble_eq_true rfl) [(0, .ref (ad 0)), (1, .int p1)] rfl ?_
  intro p e s m args below meth c hC hr
  rw [fX6_count]
  refine hr_iload_n hC dX6_count_0 rfl 1 rfl ?_
  refine hr_swIn (tgt := 76) (off := 75) (v := 0) hC dX6_count_1 (by decide) (by decide) (by decide) (by decide) ?_ (fun g0 => ?_)
  · refine hr_aload_n hC dX6_count_76 rfl 0 rfl ?_
    refine hr_getR hC hiX6_count_X6 rfl km0 0 (by decide) hmX6_count_7 rfl dX6_count_77 ?_
    refine hr_iconst (v := 2) hC dX6_count_80 (by decide) ?_
    refine hr_iald hC km1 dX6_count_81 ?_
    exact hr_ireti hC hr dX6_count_82
  refine hr_swIn (tgt := 83) (off := 82) (v := 1) hC dX6_count_1 (by decide) (by decide) (by decide) (by decide) ?_ (fun g1 => ?_)
  · refine hr_aload_n hC dX6_count_83 rfl 0 rfl ?_
    refine hr_getR hC hiX6_count_X6 rfl km0 0 (by decide) hmX6_count_7 rfl dX6_count_84 ?_
    refine hr_iconst (v := 0) hC dX6_count_87 (by decide) ?_
    refine hr_iald hC km1 dX6_count_88 ?_
    exact hr_ireti hC hr dX6_count_89
  refine hr_swIn (tgt := 90) (off := 89) (v := 2) hC dX6_count_1 (by decide) (by decide) (by decide) (by decide) ?_ (fun g2 => ?_)
  · refine hr_aload_n hC dX6_count_90 rfl 0 rfl ?_
    refine hr_getR hC hiX6_count_X6 rfl km0 0 (by decide) hmX6_count_7 rfl dX6_count_91 ?_
    refine hr_iconst (v := 1) hC dX6_count_94 (by decide) ?_
    refine hr_iald hC km1 dX6_count_95 ?_
    exact hr_ireti hC hr dX6_count_96
  refine hr_swIn (tgt := 97) (off := 96) (v := 3) hC dX6_count_1 (by decide) (by decide) (by decide) (by decide) ?_ (fun g3 => ?_)
  · refine hr_aload_n hC dX6_count_97 rfl 0 rfl ?_
    refine hr_callVi (As := []) (k := 0) hC rfl (tX6_faulty hI n μ) (cwV 0 hC.1.2.2.2.2 gX6_count_X6_faulty rfl rfl rfl (by decide +kernel) ⟨Nat.le_of_ble_eq_true rfl, Nat.le_of_ble_eq_true rfl⟩) km0 rfl rfl rfl (Nat.le_of_ble_eq_true rfl) dX6_count_98 (fun r98 m98 => ?_)
    exact hr_ireti hC hr dX6_count_101
  refine hr_swIn (tgt := 102) (off := 101) (v := 4) hC dX6_count_1 (by decide) (by decide) (by decide) (by decide) ?_ (fun g4 => ?_)
  · refine hr_aload_n hC dX6_count_102 rfl 0 rfl ?_
    refine hr_getR hC hiX6_count_X6 rfl km0 0 (by decide) hmX6_count_7 rfl dX6_count_103 ?_
    refine hr_iconst (v := 3) hC dX6_count_106 (by decide) ?_
    refine hr_iload_n hC dX6_count_107 rfl 1 rfl ?_
    refine hr_iadd hC dX6_count_108 ?_
    refine hr_iconst (v := 4) hC dX6_count_109 (by decide) ?_
    refine hr_isub hC dX6_count_110 ?_
    refine hr_iald hC km1 dX6_count_111 ?_
    exact hr_ireti hC hr dX6_count_112
  refine hr_swIn (tgt := 102) (off := 101) (v := 5) hC dX6_count_1 (by decide) (by decide) (by decide) (by decide) ?_ (fun g5 => ?_)
  · refine hr_aload_n hC dX6_count_102 rfl 0 rfl ?_
    refine hr_getR hC hiX6_count_X6 rfl km0 0 (by decide) hmX6_count_7 rfl dX6_count_103 ?_
    refine hr_iconst (v := 3) hC dX6_count_106 (by decide) ?_
    refine hr_iload_n hC dX6_count_107 rfl 1 rfl ?_
    refine hr_iadd hC dX6_count_108 ?_
    refine hr_iconst (v := 4) hC dX6_count_109 (by decide) ?_
    refine hr_isub hC dX6_count_110 ?_
    refine hr_iald hC km1 dX6_count_111 ?_
    exact hr_ireti hC hr dX6_count_112
  refine hr_swIn (tgt := 102) (off := 101) (v := 6) hC dX6_count_1 (by decide) (by decide) (by decide) (by decide) ?_ (fun g6 => ?_)
  · refine hr_aload_n hC dX6_count_102 rfl 0 rfl ?_
    refine hr_getR hC hiX6_count_X6 rfl km0 0 (by decide) hmX6_count_7 rfl dX6_count_103 ?_
    refine hr_iconst (v := 3) hC dX6_count_106 (by decide) ?_
    refine hr_iload_n hC dX6_count_107 rfl 1 rfl ?_
    refine hr_iadd hC dX6_count_108 ?_
    refine hr_iconst (v := 4) hC dX6_count_109 (by decide) ?_
    refine hr_isub hC dX6_count_110 ?_
    refine hr_iald hC km1 dX6_count_111 ?_
    exact hr_ireti hC hr dX6_count_112
  refine hr_swIn (tgt := 113) (off := 112) (v := 7) hC dX6_count_1 (by decide) (by decide) (by decide) (by decide) ?_ (fun g7 => ?_)
  · refine hr_aload_n hC dX6_count_113 rfl 0 rfl ?_
    refine hr_callVi (As := []) (k := 0) hC rfl (tX6_areas hI n μ) (cwV 0 hC.1.2.2.2.2 gX6_count_X6_areas rfl rfl rfl (by decide +kernel) ⟨Nat.le_of_ble_eq_true rfl, Nat.le_of_ble_eq_true rfl⟩) km0 rfl rfl rfl (Nat.le_of_ble_eq_true rfl) dX6_count_114 (fun r114 m114 => ?_)
    exact hr_ireti hC hr dX6_count_117
  refine hr_swIn (tgt := 118) (off := 117) (v := 8) hC dX6_count_1 (by decide) (by decide) (by decide) (by decide) ?_ (fun g8 => ?_)
  · refine hr_aload_n hC dX6_count_118 rfl 0 rfl ?_
    refine hr_callVi (As := []) (k := 0) hC rfl (tX6_allUnits hI n μ) (cwV 0 hC.1.2.2.2.2 gX6_count_X6_allUnits rfl rfl rfl (by decide +kernel) ⟨Nat.le_of_ble_eq_true rfl, Nat.le_of_ble_eq_true rfl⟩) km0 rfl rfl rfl (Nat.le_of_ble_eq_true rfl) dX6_count_119 (fun r119 m119 => ?_)
    exact hr_ireti hC hr dX6_count_122
  refine hr_swIn (tgt := 123) (off := 122) (v := 9) hC dX6_count_1 (by decide) (by decide) (by decide) (by decide) ?_ (fun g9 => ?_)
  · refine hr_aload_n hC dX6_count_123 rfl 0 rfl ?_
    refine hr_callVi (As := []) (k := 0) hC rfl (tX6_openBills hI n μ) (cwV 0 hC.1.2.2.2.2 gX6_count_X6_openBills rfl rfl rfl (by decide +kernel) ⟨Nat.le_of_ble_eq_true rfl, Nat.le_of_ble_eq_true rfl⟩) km0 rfl rfl rfl (Nat.le_of_ble_eq_true rfl) dX6_count_124 (fun r124 m124 => ?_)
    exact hr_ireti hC hr dX6_count_127
  refine hr_swIn (tgt := 128) (off := 127) (v := 10) hC dX6_count_1 (by decide) (by decide) (by decide) (by decide) ?_ (fun g10 => ?_)
  · refine hr_aload_n hC dX6_count_128 rfl 0 rfl ?_
    refine hr_callVi (As := []) (k := 0) hC rfl (tX6_oldBills hI n μ) (cwV 0 hC.1.2.2.2.2 gX6_count_X6_oldBills rfl rfl rfl (by decide +kernel) ⟨Nat.le_of_ble_eq_true rfl, Nat.le_of_ble_eq_true rfl⟩) km0 rfl rfl rfl (Nat.le_of_ble_eq_true rfl) dX6_count_129 (fun r129 m129 => ?_)
    exact hr_ireti hC hr dX6_count_132
  refine hr_swIn (tgt := 133) (off := 132) (v := 11) hC dX6_count_1 (by decide) (by decide) (by decide) (by decide) ?_ (fun g11 => ?_)
  · refine hr_aload_n hC dX6_count_133 rfl 0 rfl ?_
    refine hr_getR hC hiX6_count_X6 rfl km0 0 (by decide) hmX6_count_7 rfl dX6_count_134 ?_
    refine hr_bipush (v := 6) hC dX6_count_137 (by decide) ?_
    refine hr_iald hC km1 dX6_count_139 ?_
    exact hr_ireti hC hr dX6_count_140
  refine hr_swIn (tgt := 141) (off := 140) (v := 12) hC dX6_count_1 (by decide) (by decide) (by decide) (by decide) ?_ (fun g12 => ?_)
  · refine hr_aload_n hC dX6_count_141 rfl 0 rfl ?_
    refine hr_callVi (As := []) (k := 0) hC rfl (tX6_moves hI n μ) (cwV 0 hC.1.2.2.2.2 gX6_count_X6_moves rfl rfl rfl (by decide +kernel) ⟨Nat.le_of_ble_eq_true rfl, Nat.le_of_ble_eq_true rfl⟩) km0 rfl rfl rfl (Nat.le_of_ble_eq_true rfl) dX6_count_142 (fun r142 m142 => ?_)
    exact hr_ireti hC hr dX6_count_145
  refine hr_swIn (tgt := 146) (off := 145) (v := 13) hC dX6_count_1 (by decide) (by decide) (by decide) (by decide) ?_ (fun g13 => ?_)
  · refine hr_aload_n hC dX6_count_146 rfl 0 rfl ?_
    refine hr_getI hC hiX6_count_X6 rfl km0 2 (by decide) hmX6_count_45 rfl dX6_count_147 ?_
    exact hr_ireti hC hr dX6_count_150
  refine hr_swIn (tgt := 151) (off := 150) (v := 14) hC dX6_count_1 (by decide) (by decide) (by decide) (by decide) ?_ (fun g14 => ?_)
  · refine hr_aload_n hC dX6_count_151 rfl 0 rfl ?_
    refine hr_getI hC hiX6_count_X6 rfl km0 6 (by decide) hmX6_count_143 rfl dX6_count_152 ?_
    exact hr_ireti hC hr dX6_count_155
  refine hr_swOut (tgt := 156) hC dX6_count_1 (by have e0 := lv_neT g0 (a := 0) rfl; have e1 := lv_neT g1 (a := 1) rfl; have e2 := lv_neT g2 (a := 2) rfl; have e3 := lv_neT g3 (a := 3) rfl; have e4 := lv_neT g4 (a := 4) rfl; have e5 := lv_neT g5 (a := 5) rfl; have e6 := lv_neT g6 (a := 6) rfl; have e7 := lv_neT g7 (a := 7) rfl; have e8 := lv_neT g8 (a := 8) rfl; have e9 := lv_neT g9 (a := 9) rfl; have e10 := lv_neT g10 (a := 10) rfl; have e11 := lv_neT g11 (a := 11) rfl; have e12 := lv_neT g12 (a := 12) rfl; have e13 := lv_neT g13 (a := 13) rfl; have e14 := lv_neT g14 (a := 14) rfl; omega) (by decide) ?_
  refine hr_bipush (v := -2) hC dX6_count_156 (by decide) ?_
  exact hr_ireti hC hr dX6_count_158

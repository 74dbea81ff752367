theorem hmX5_count_12 : Cond.fieldLink RX5 12 "HeatBills" "now" "LHeatBills$House;" ∈ wsX5_count := List.mem_of_getElem? (i := 1) rfl
theorem hmX5_count_48 : Cond.fieldLink RX5 48 "HeatBills$House" "closedCount" "I" ∈ wsX5_count := List.mem_of_getElem? (i := 2) rfl
theorem hmX5_count_44 : Cond.fieldLink RX5 44 "HeatBills$House" "flatCount" "I" ∈ wsX5_count := List.mem_of_getElem? (i := 3) rfl
theorem hmX5_count_63 : Cond.fieldLink RX5 63 "HeatBills$House" "openYear" "LHeatBills$Year;" ∈ wsX5_count := List.mem_of_getElem? (i := 4) rfl
theorem hmX5_count_67 : Cond.fieldLink RX5 67 "HeatBills$Year" "deviceCount" "I" ∈ wsX5_count := List.mem_of_getElem? (i := 5) rfl
theorem hmX5_count_55 : Cond.fieldLink RX5 55 "HeatBills$House" "areas" "[I" ∈ wsX5_count := List.mem_of_getElem? (i := 6) rfl
theorem hmX5_count_40 : Cond.fieldLink RX5 40 "HeatBills" "accounts" "LHeatBills$Accounts;" ∈ wsX5_count := List.mem_of_getElem? (i := 7) rfl
theorem hmX5_count_192 : Cond.fieldLink RX5 192 "HeatBills$Accounts" "flatUnits" "[I" ∈ wsX5_count := List.mem_of_getElem? (i := 8) rfl
theorem hmX5_count_195 : Cond.fieldLink RX5 195 "HeatBills$Accounts" "baseCosts" "[I" ∈ wsX5_count := List.mem_of_getElem? (i := 9) rfl
theorem hmX5_count_198 : Cond.fieldLink RX5 198 "HeatBills$Accounts" "unitCosts" "[I" ∈ wsX5_count := List.mem_of_getElem? (i := 10) rfl
theorem hmX5_count_163 : Cond.fieldLink RX5 163 "HeatBills$House" "corrections" "I" ∈ wsX5_count := List.mem_of_getElem? (i := 11) rfl
theorem hmX5_count_26 : Cond.fieldLink RX5 26 "HeatBills" "history" "LHeatBills$History;" ∈ wsX5_count := List.mem_of_getElem? (i := 12) rfl
theorem hmX5_count_186 : Cond.fieldLink RX5 186 "HeatBills$History" "size" "I" ∈ wsX5_count := List.mem_of_getElem? (i := 13) rfl
theorem hmX5_count_33 : Cond.fieldLink RX5 33 "HeatBills" "text" "LHeatBills$ReadingsText;" ∈ wsX5_count := List.mem_of_getElem? (i := 14) rfl
theorem hmX5_count_176 : Cond.fieldLink RX5 176 "HeatBills$ReadingsText" "length" "I" ∈ wsX5_count := List.mem_of_getElem? (i := 15) rfl
theorem hiX5_count_X5 : ∀ w ∈ wsX50, w ∈ wsX5_count := fun _ h => List.mem_cons_of_mem _ (List.mem_append_left _ (List.mem_append_left _ (List.mem_append_left _ (List.mem_append_left _ (List.mem_append_left _ (List.mem_append_right _ h))))))
theorem hiX5_count_X2 : ∀ w ∈ wsX20, w ∈ wsX5_count := fun _ h => List.mem_cons_of_mem _ (List.mem_append_left _ (List.mem_append_left _ (List.mem_append_left _ (List.mem_append_left _ (List.mem_append_right _ h)))))
theorem hiX5_count_X4 : ∀ w ∈ wsX40, w ∈ wsX5_count := fun _ h => List.mem_cons_of_mem _ (List.mem_append_left _ (List.mem_append_left _ (List.mem_append_left _ (List.mem_append_right _ h))))
theorem hiX5_count_X0 : ∀ w ∈ wsX00, w ∈ wsX5_count := fun _ h => List.mem_cons_of_mem _ (List.mem_append_left _ (List.mem_append_left _ (List.mem_append_right _ h)))
theorem hiX5_count_X1 : ∀ w ∈ wsX10, w ∈ wsX5_count := fun _ h => List.mem_cons_of_mem _ (List.mem_append_left _ (List.mem_append_right _ h))
theorem hiX5_count_X3 : ∀ w ∈ wsX30, w ∈ wsX5_count := fun _ h => List.mem_cons_of_mem _ (List.mem_append_right _ h)
def fX5_count (n : Nat) (p1 : Int32) (μ : hb_m) : Option (Int32 × hb_m) :=
if p1 = 0 then
(some ((rd μ 0 10), μ))
else if p1 = 1 then
(some ((rd μ 0 0), μ))
else if p1 = 2 then
(some ((rd μ (0 + 8) 2), μ))
else if p1 = 3 then
(bi (fX2_faultyCount n 0 μ) (fun r107 m107 =>
some (r107, m107)))
else if p1 = 4 then
(bi (fX2_setting n 0 (p1 - (4 : Int32)) μ) (fun r118 m118 =>
some (r118, m118)))
else if p1 = 5 then
(bi (fX2_setting n 0 (p1 - (4 : Int32)) μ) (fun r118 m118 =>
some (r118, m118)))
else if p1 = 6 then
(bi (fX2_setting n 0 (p1 - (4 : Int32)) μ) (fun r118 m118 =>
some (r118, m118)))
else if p1 = 7 then
(bi (fX5_sumOf n (0 + 1) (rd μ 0 0) μ) (fun r136 m136 =>
some (r136, m136)))
else if p1 = 8 then
(bv (fX5_drawUpOpenYear n μ) (fun m141 =>
bi (fX5_sumOf n 236 (rd m141 0 0) m141) (fun r158 m158 =>
some (r158, m158))))
else if p1 = 9 then
(bv (fX5_drawUpOpenYear n μ) (fun m163 =>
bi (fX5_sumOf n 237 (rd m163 0 0) m163) (fun r180 m180 =>
bi (fX5_sumOf n 238 (rd m180 0 0) m180) (fun r197 m197 =>
some ((r180 + r197), m197)))))
else if p1 = 10 then
(bi (fX2_keptBills n 0 μ) (fun r206 m206 =>
some (r206, m206)))
else if p1 = 11 then
(some ((rd μ 0 8), μ))
else if p1 = 12 then
(bi (fX2_moveCount n 0 μ) (fun r222 m222 =>
some (r222, m222)))
else if p1 = 13 then
(some ((rd μ 229 2), μ))
else if p1 = 14 then
(some ((rd μ 231 1), μ))
else 
(some ((-2 : Int32), μ))
abbrev rmX5_count : Room := { frames := 5, cells := 0, slots := 0, locals := 121 }
set_option maxRecDepth 100000 in
set_option maxHeartbeats 4000000 in
theorem tX5_count {l : Launch} {D : va_G} {ad : Nat → Nat} {dA : Nat → ClassId} {t1 t2 : Nat} (hI : hb_I 241 ad) (n : Nat) (p1 : Int32) (μ : hb_m) : hb_M (hb_Qi vwCl kdX 241 ad D dA) l yX5_count wsX5_count rmX5_count vwCl kdX 241 ad D dA (tbX t1 t2) nwX [.ref (ad 228), .int p1] μ (fX5_count n p1 μ) := by
  refine hb_start (cc := cX5_count) (maxL := 2) (ret := (some .int)) (by decide) rfl hI (Nat.le_of_ble_eq_true rfl) [(0, .ref (ad 228)), (1, .int p1)] rfl ?_
  intro p e s m args below meth c hC hr
  rw [fX5_count]
  refine hr_iload_n hC dX5_count_0 rfl 1 rfl ?_
  refine hr_swIn (tgt := 76) (off := 75) (v := 0) hC dX5_count_1 (by decide) (by decide) (by decide) (by decide) ?_ (fun g0 => ?_)
  · refine hr_aload_n hC dX5_count_76 rfl 0 rfl ?_
    refine hr_getR hC hiX5_count_X5 rfl kx228 0 (by decide) hmX5_count_12 rfl dX5_count_77 ?_
    refine hr_getI hC hiX5_count_X2 rfl (kxH hx_H0) 10 (by decide) hmX5_count_48 rfl dX5_count_80 ?_
    exact hr_ireti hC hr dX5_count_83
  refine hr_swIn (tgt := 84) (off := 83) (v := 1) hC dX5_count_1 (by decide) (by decide) (by decide) (by decide) ?_ (fun g1 => ?_)
  · refine hr_aload_n hC dX5_count_84 rfl 0 rfl ?_
    refine hr_getR hC hiX5_count_X5 rfl kx228 0 (by decide) hmX5_count_12 rfl dX5_count_85 ?_
    refine hr_getI hC hiX5_count_X2 rfl (kxH hx_H0) 0 (by decide) hmX5_count_44 rfl dX5_count_88 ?_
    exact hr_ireti hC hr dX5_count_91
  refine hr_swIn (tgt := 92) (off := 91) (v := 2) hC dX5_count_1 (by decide) (by decide) (by decide) (by decide) ?_ (fun g2 => ?_)
  · refine hr_aload_n hC dX5_count_92 rfl 0 rfl ?_
    refine hr_getR hC hiX5_count_X5 rfl kx228 0 (by decide) hmX5_count_12 rfl dX5_count_93 ?_
    refine hr_getR hC hiX5_count_X2 rfl (kxH hx_H0) 9 (by decide) hmX5_count_63 rfl dX5_count_96 ?_
    refine hr_getI hC hiX5_count_X4 rfl (kxY (hx_Yo hx_H0)) 2 (by decide) hmX5_count_67 rfl dX5_count_99 ?_
    exact hr_ireti hC hr dX5_count_102
  refine hr_swIn (tgt := 103) (off := 102) (v := 3) hC dX5_count_1 (by decide) (by decide) (by decide) (by decide) ?_ (fun g3 => ?_)
  · refine hr_aload_n hC dX5_count_103 rfl 0 rfl ?_
    refine hr_getR hC hiX5_count_X5 rfl kx228 0 (by decide) hmX5_count_12 rfl dX5_count_104 ?_
    refine hr_callVi (As := []) (k := 0) hC rfl (tX2_faultyCount (t1 := t1) (t2 := t2) hI n 0 hx_H0 μ) (cwV 0 hC.1.2.2.2.2 gX5_count_X2_faultyCount rfl rfl rfl (by decide +kernel) ⟨Nat.le_of_ble_eq_true rfl, Nat.le_of_ble_eq_true rfl⟩) (kxH hx_H0) rfl rfl rfl (Nat.le_of_ble_eq_true rfl) dX5_count_107 (fun r107 m107 => ?_)
    exact hr_ireti hC hr dX5_count_110
  refine hr_swIn (tgt := 111) (off := 110) (v := 4) hC dX5_count_1 (by decide) (by decide) (by decide) (by decide) ?_ (fun g4 => ?_)
  · refine hr_aload_n hC dX5_count_111 rfl 0 rfl ?_
    refine hr_getR hC hiX5_count_X5 rfl kx228 0 (by decide) hmX5_count_12 rfl dX5_count_112 ?_
    refine hr_iload_n hC dX5_count_115 rfl 1 rfl ?_
    refine hr_iconst (v := 4) hC dX5_count_116 (by decide) ?_
    refine hr_isub hC dX5_count_117 ?_
    refine hr_callVi (As := [.int (p1 - (4 : Int32))]) (k := 0) hC rfl (tX2_setting (t1 := t1) (t2 := t2) hI n 0 hx_H0 (p1 - (4 : Int32)) μ) (cwV 1 hC.1.2.2.2.2 gX5_count_X2_setting rfl rfl rfl (by decide +kernel) ⟨Nat.le_of_ble_eq_true rfl, Nat.le_of_ble_eq_true rfl⟩) (kxH hx_H0) rfl rfl rfl (Nat.le_of_ble_eq_true rfl) dX5_count_118 (fun r118 m118 => ?_)
    exact hr_ireti hC hr dX5_count_121
  refine hr_swIn (tgt := 111) (off := 110) (v := 5) hC dX5_count_1 (by decide) (by decide) (by decide) (by decide) ?_ (fun g5 => ?_)
  · refine hr_aload_n hC dX5_count_111 rfl 0 rfl ?_
    refine hr_getR hC hiX5_count_X5 rfl kx228 0 (by decide) hmX5_count_12 rfl dX5_count_112 ?_
    refine hr_iload_n hC dX5_count_115 rfl 1 rfl ?_
    refine hr_iconst (v := 4) hC dX5_count_116 (by decide) ?_
    refine hr_isub hC dX5_count_117 ?_
    refine hr_callVi (As := [.int (p1 - (4 : Int32))]) (k := 0) hC rfl (tX2_setting (t1 := t1) (t2 := t2) hI n 0 hx_H0 (p1 - (4 : Int32)) μ) (cwV 1 hC.1.2.2.2.2 gX5_count_X2_setting rfl rfl rfl (by decide +kernel) ⟨Nat.le_of_ble_eq_true rfl, Nat.le_of_ble_eq_true rfl⟩) (kxH hx_H0) rfl rfl rfl (Nat.le_of_ble_eq_true rfl) dX5_count_118 (fun r118 m118 => ?_)
    exact hr_ireti hC hr dX5_count_121
  refine hr_swIn (tgt := 111) (off := 110) (v := 6) hC dX5_count_1 (by decide) (by decide) (by decide) (by decide) ?_ (fun g6 => ?_)
  · refine hr_aload_n hC dX5_count_111 rfl 0 rfl ?_
    refine hr_getR hC hiX5_count_X5 rfl kx228 0 (by decide) hmX5_count_12 rfl dX5_count_112 ?_
    refine hr_iload_n hC dX5_count_115 rfl 1 rfl ?_
    refine hr_iconst (v := 4) hC dX5_count_116 (by decide) ?_
    refine hr_isub hC dX5_count_117 ?_
    refine hr_callVi (As := [.int (p1 - (4 : Int32))]) (k := 0) hC rfl (tX2_setting (t1 := t1) (t2 := t2) hI n 0 hx_H0 (p1 - (4 : Int32)) μ) (cwV 1 hC.1.2.2.2.2 gX5_count_X2_setting rfl rfl rfl (by decide +kernel) ⟨Nat.le_of_ble_eq_true rfl, Nat.le_of_ble_eq_true rfl⟩) (kxH hx_H0) rfl rfl rfl (Nat.le_of_ble_eq_true rfl) dX5_count_118 (fun r118 m118 => ?_)
    exact hr_ireti hC hr dX5_count_121
  refine hr_swIn (tgt := 122) (off := 121) (v := 7) hC dX5_count_1 (by decide) (by decide) (by decide) (by decide) ?_ (fun g7 => ?_)
  · refine hr_aload_n hC dX5_count_122 rfl 0 rfl ?_
    refine hr_getR hC hiX5_count_X5 rfl kx228 0 (by decide) hmX5_count_12 rfl dX5_count_123 ?_
    refine hr_getR hC hiX5_count_X2 rfl (kxH hx_H0) 1 (by decide) hmX5_count_55 rfl dX5_count_126 ?_
    refine hr_aload_n hC dX5_count_129 rfl 0 rfl ?_
    refine hr_getR hC hiX5_count_X5 rfl kx228 0 (by decide) hmX5_count_12 rfl dX5_count_130 ?_
    refine hr_getI hC hiX5_count_X2 rfl (kxH hx_H0) 0 (by decide) hmX5_count_44 rfl dX5_count_133 ?_
    refine hr_callSi (As := [.ref (ad (0 + 1)), .int (rd μ 0 0)]) hC rfl (tX5_sumOf (t1 := t1) (t2 := t2) hI n (0 + 1) (hx_Io (kxH1 hx_H0)) (rd μ 0 0) μ) (va_cwS 2 hC.1.2.2.2.2 gX5_count_X5_sumOf rfl rfl rfl (by decide +kernel) ⟨Nat.le_of_ble_eq_true rfl, Nat.le_of_ble_eq_true rfl⟩) rfl (Nat.le_of_ble_eq_true rfl) dX5_count_136 (fun r136 m136 => ?_)
    exact hr_ireti hC hr dX5_count_139
  refine hr_swIn (tgt := 140) (off := 139) (v := 8) hC dX5_count_1 (by decide) (by decide) (by decide) (by decide) ?_ (fun g8 => ?_)
  · refine hr_aload_n hC dX5_count_140 rfl 0 rfl ?_
    refine hr_callVv (As := []) (k := 228) hC rfl (tX5_drawUpOpenYear (t1 := t1) (t2 := t2) hI n μ) (cwV 0 hC.1.2.2.2.2 gX5_count_X5_drawUpOpenYear rfl rfl rfl (by decide +kernel) ⟨Nat.le_of_ble_eq_true rfl, Nat.le_of_ble_eq_true rfl⟩) kx228 rfl rfl rfl (Nat.le_of_ble_eq_true rfl) dX5_count_141 (fun m141 => ?_)
    refine hr_aload_n hC dX5_count_144 rfl 0 rfl ?_
    refine hr_getR hC hiX5_count_X5 rfl kx228 5 (by decide) hmX5_count_40 rfl dX5_count_145 ?_
    refine hr_getR hC hiX5_count_X0 rfl kx235 0 (by decide) hmX5_count_192 rfl dX5_count_148 ?_
    refine hr_aload_n hC dX5_count_151 rfl 0 rfl ?_
    refine hr_getR hC hiX5_count_X5 rfl kx228 0 (by decide) hmX5_count_12 rfl dX5_count_152 ?_
    refine hr_getI hC hiX5_count_X2 rfl (kxH hx_H0) 0 (by decide) hmX5_count_44 rfl dX5_count_155 ?_
    refine hr_callSi (As := [.ref (ad 236), .int (rd m141 0 0)]) hC rfl (tX5_sumOf (t1 := t1) (t2 := t2) hI n 236 (hx_Io kx236) (rd m141 0 0) m141) (va_cwS 2 hC.1.2.2.2.2 gX5_count_X5_sumOf rfl rfl rfl (by decide +kernel) ⟨Nat.le_of_ble_eq_true rfl, Nat.le_of_ble_eq_true rfl⟩) rfl (Nat.le_of_ble_eq_true rfl) dX5_count_158 (fun r158 m158 => ?_)
    exact hr_ireti hC hr dX5_count_161
  refine hr_swIn (tgt := 162) (off := 161) (v := 9) hC dX5_count_1 (by decide) (by decide) (by decide) (by decide) ?_ (fun g9 => ?_)
  · refine hr_aload_n hC dX5_count_162 rfl 0 rfl ?_
    refine hr_callVv (As := []) (k := 228) hC rfl (tX5_drawUpOpenYear (t1 := t1) (t2 := t2) hI n μ) (cwV 0 hC.1.2.2.2.2 gX5_count_X5_drawUpOpenYear rfl rfl rfl (by decide +kernel) ⟨Nat.le_of_ble_eq_true rfl, Nat.le_of_ble_eq_true rfl⟩) kx228 rfl rfl rfl (Nat.le_of_ble_eq_true rfl) dX5_count_163 (fun m163 => ?_)
    refine hr_aload_n hC dX5_count_166 rfl 0 rfl ?_
    refine hr_getR hC hiX5_count_X5 rfl kx228 5 (by decide) hmX5_count_40 rfl dX5_count_167 ?_
    refine hr_getR hC hiX5_count_X0 rfl kx235 1 (by decide) hmX5_count_195 rfl dX5_count_170 ?_
    refine hr_aload_n hC dX5_count_173 rfl 0 rfl ?_
    refine hr_getR hC hiX5_count_X5 rfl kx228 0 (by decide) hmX5_count_12 rfl dX5_count_174 ?_
    refine hr_getI hC hiX5_count_X2 rfl (kxH hx_H0) 0 (by decide) hmX5_count_44 rfl dX5_count_177 ?_
    refine hr_callSi (As := [.ref (ad 237), .int (rd m163 0 0)]) hC rfl (tX5_sumOf (t1 := t1) (t2 := t2) hI n 237 (hx_Io kx237) (rd m163 0 0) m163) (va_cwS 2 hC.1.2.2.2.2 gX5_count_X5_sumOf rfl rfl rfl (by decide +kernel) ⟨Nat.le_of_ble_eq_true rfl, Nat.le_of_ble_eq_true rfl⟩) rfl (Nat.le_of_ble_eq_true rfl) dX5_count_180 (fun r180 m180 => ?_)
    refine hr_aload_n hC dX5_count_183 rfl 0 rfl ?_
    refine hr_getR hC hiX5_count_X5 rfl kx228 5 (by decide) hmX5_count_40 rfl dX5_count_184 ?_
    refine hr_getR hC hiX5_count_X0 rfl kx235 2 (by decide) hmX5_count_198 rfl dX5_count_187 ?_
    refine hr_aload_n hC dX5_count_190 rfl 0 rfl ?_
    refine hr_getR hC hiX5_count_X5 rfl kx228 0 (by decide) hmX5_count_12 rfl dX5_count_191 ?_
    refine hr_getI hC hiX5_count_X2 rfl (kxH hx_H0) 0 (by decide) hmX5_count_44 rfl dX5_count_194 ?_
    refine hr_callSi (As := [.ref (ad 238), .int (rd m180 0 0)]) hC rfl (tX5_sumOf (t1 := t1) (t2 := t2) hI n 238 (hx_Io kx238) (rd m180 0 0) m180) (va_cwS 2 hC.1.2.2.2.2 gX5_count_X5_sumOf rfl rfl rfl (by decide +kernel) ⟨Nat.le_of_ble_eq_true rfl, Nat.le_of_ble_eq_true rfl⟩) rfl (Nat.le_of_ble_eq_true rfl) dX5_count_197 (fun r197 m197 => ?_)
    refine hr_iadd hC dX5_count_200 ?_
    exact hr_ireti hC hr dX5_count_201
  refine hr_swIn (tgt := 202) (off := 201) (v := 10) hC dX5_count_1 (by decide) (by decide) (by decide) (by decide) ?_ (fun g10 => ?_)
  · refine hr_aload_n hC dX5_count_202 rfl 0 rfl ?_
    refine hr_getR hC hiX5_count_X5 rfl kx228 0 (by decide) hmX5_count_12 rfl dX5_count_203 ?_
    refine hr_callVi (As := []) (k := 0) hC rfl (tX2_keptBills (t1 := t1) (t2 := t2) hI n 0 hx_H0 μ) (cwV 0 hC.1.2.2.2.2 gX5_count_X2_keptBills rfl rfl rfl (by decide +kernel) ⟨Nat.le_of_ble_eq_true rfl, Nat.le_of_ble_eq_true rfl⟩) (kxH hx_H0) rfl rfl rfl (Nat.le_of_ble_eq_true rfl) dX5_count_206 (fun r206 m206 => ?_)
    exact hr_ireti hC hr dX5_count_209
  refine hr_swIn (tgt := 210) (off := 209) (v := 11) hC dX5_count_1 (by decide) (by decide) (by decide) (by decide) ?_ (fun g11 => ?_)
  · refine hr_aload_n hC dX5_count_210 rfl 0 rfl ?_
    refine hr_getR hC hiX5_count_X5 rfl kx228 0 (by decide) hmX5_count_12 rfl dX5_count_211 ?_
    refine hr_getI hC hiX5_count_X2 rfl (kxH hx_H0) 8 (by decide) hmX5_count_163 rfl dX5_count_214 ?_
    exact hr_ireti hC hr dX5_count_217
  refine hr_swIn (tgt := 218) (off := 217) (v := 12) hC dX5_count_1 (by decide) (by decide) (by decide) (by decide) ?_ (fun g12 => ?_)
  · refine hr_aload_n hC dX5_count_218 rfl 0 rfl ?_
    refine hr_getR hC hiX5_count_X5 rfl kx228 0 (by decide) hmX5_count_12 rfl dX5_count_219 ?_
    refine hr_callVi (As := []) (k := 0) hC rfl (tX2_moveCount (t1 := t1) (t2 := t2) hI n 0 hx_H0 μ) (cwV 0 hC.1.2.2.2.2 gX5_count_X2_moveCount rfl rfl rfl (by decide +kernel) ⟨Nat.le_of_ble_eq_true rfl, Nat.le_of_ble_eq_true rfl⟩) (kxH hx_H0) rfl rfl rfl (Nat.le_of_ble_eq_true rfl) dX5_count_222 (fun r222 m222 => ?_)
    exact hr_ireti hC hr dX5_count_225
  refine hr_swIn (tgt := 226) (off := 225) (v := 13) hC dX5_count_1 (by decide) (by decide) (by decide) (by decide) ?_ (fun g13 => ?_)
  · refine hr_aload_n hC dX5_count_226 rfl 0 rfl ?_
    refine hr_getR hC hiX5_count_X5 rfl kx228 3 (by decide) hmX5_count_26 rfl dX5_count_227 ?_
    refine hr_getI hC hiX5_count_X1 rfl kx229 2 (by decide) hmX5_count_186 rfl dX5_count_230 ?_
    exact hr_ireti hC hr dX5_count_233
  refine hr_swIn (tgt := 234) (off := 233) (v := 14) hC dX5_count_1 (by decide) (by decide) (by decide) (by decide) ?_ (fun g14 => ?_)
  · refine hr_aload_n hC dX5_count_234 rfl 0 rfl ?_
    refine hr_getR hC hiX5_count_X5 rfl kx228 4 (by decide) hmX5_count_33 rfl dX5_count_235 ?_
    refine hr_getI hC hiX5_count_X3 rfl kx231 1 (by decide) hmX5_count_176 rfl dX5_count_238 ?_
    exact hr_ireti hC hr dX5_count_241
  refine hr_swOut (tgt := 242) hC dX5_count_1 (by have e0 := lv_neT g0 (a := 0) rfl; have e1 := lv_neT g1 (a := 1) rfl; have e2 := lv_neT g2 (a := 2) rfl; have e3 := lv_neT g3 (a := 3) rfl; have e4 := lv_neT g4 (a := 4) rfl; have e5 := lv_neT g5 (a := 5) rfl; have e6 := lv_neT g6 (a := 6) rfl; have e7 := lv_neT g7 (a := 7) rfl; have e8 := lv_neT g8 (a := 8) rfl; have e9 := lv_neT g9 (a := 9) rfl; have e10 := lv_neT g10 (a := 10) rfl; have e11 := lv_neT g11 (a := 11) rfl; have e12 := lv_neT g12 (a := 12) rfl; have e13 := lv_neT g13 (a := 13) rfl; have e14 := lv_neT g14 (a := 14) rfl; omega) (by decide) ?_
  refine hr_bipush (v := -2) hC dX5_count_242 (by decide) ?_
  exact hr_ireti hC hr dX5_count_244

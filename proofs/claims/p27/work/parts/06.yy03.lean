theorem hmL_refusesAny1_44 : Cond.constant RL 44 (100000) ∈ wsL_refusesAny := List.mem_of_getElem? (i := 1) rfl
theorem hmL_refusesAny1_74 : Cond.constant RL 74 (199981) ∈ wsL_refusesAny := List.mem_of_getElem? (i := 2) rfl
def fL_refusesAny1 (n : Nat) (μ : hb_m) : Option (Int32 × hb_m) :=
bi (fX5_count n (1 : Int32) μ) (fun r10 m10 =>
bi (fX5_count n (2 : Int32) m10) (fun r24 m24 =>
bi (fX5_count n (0 : Int32) m24) (fun r38 m38 =>
bi (fX5_addFlat n (201 : Int32) m38) (fun r55 m55 =>
if r55 = (-2 : Int32) then
(bi (fX5_addDevice n r10 (99 : Int32) m55) (fun r67 m67 =>
if r67 = (-1 : Int32) then
(bi (fX5_addDevice n (0 : Int32) (21 : Int32) m67) (fun r86 m86 =>
if r86 = (-2 : Int32) then
(bi (fX5_set n (3 : Int32) (0 : Int32) m86) (fun r105 m105 =>
if r105 = (-2 : Int32) then
(bi (fX5_set n (0 : Int32) (100000 : Int32) m105) (fun r125 m125 =>
if r125 = (-2 : Int32) then
(bi (fX5_set n (1 : Int32) (101 : Int32) m125) (fun r145 m145 =>
if r145 = (-2 : Int32) then
(bi (fX5_set n (2 : Int32) (2 : Int32) m145) (fun r164 m164 =>
if r164 = (-2 : Int32) then
(bi (fX5_count n ((4 : Int32) + (1 : Int32)) m164) (fun r178 m178 =>
bi (fX5_set n (1 : Int32) r178 m178) (fun r181 m181 =>
if r181 = (-5 : Int32) then
(bi (fX5_read n r24 (-1 : Int32) m181) (fun r192 m192 =>
if r192 = (-1 : Int32) then
(bi (fX5_read n (0 : Int32) (10000 : Int32) m192) (fun r212 m212 =>
if r212 = (-2 : Int32) then
(bi (fX5_device n (0 : Int32) (3 : Int32) m212) (fun r225 m225 =>
bi (fX5_read n (0 : Int32) r225 m225) (fun r228 m228 =>
if r228 = (-5 : Int32) then
(bi (fX5_mark n r24 (1 : Int32) m228) (fun r239 m239 =>
if r239 = (-1 : Int32) then
(bi (fX5_device n (0 : Int32) (4 : Int32) m239) (fun r251 m251 =>
if r251 = (1 : Int32) then
(bi (fX5_mark n (0 : Int32) (1 : Int32) m251) (fun r263 m263 =>
if r263 = (-5 : Int32) then
(bi (fX5_move n r10 (0 : Int32) m263) (fun r276 m276 =>
if r276 = (-1 : Int32) then
(bi (fX5_move n (0 : Int32) (12 : Int32) m276) (fun r295 m295 =>
if r295 = (-2 : Int32) then
(bi (fX5_between n r10 (-1 : Int32) m295) (fun r306 m306 =>
if r306 = (-1 : Int32) then
(bi (fX5_between n (0 : Int32) (1001 : Int32) m306) (fun r326 m326 =>
if r326 = (-2 : Int32) then
(bi (fX5_correct n r38 (0 : Int32) (-1 : Int32) m326) (fun r339 m339 =>
if r339 = (-1 : Int32) then
(bi (fX5_flat n r10 (99 : Int32) m339) (fun r350 m350 =>
if r350 = (-1 : Int32) then
(bi (fX5_flat n (0 : Int32) (8 : Int32) m350) (fun r369 m369 =>
if r369 = (-2 : Int32) then
(bi (fX5_device n r24 (99 : Int32) m369) (fun r381 m381 =>
if r381 = (-1 : Int32) then
(bi (fX5_device n (0 : Int32) (6 : Int32) m381) (fun r400 m400 =>
if r400 = (-2 : Int32) then
(bi (fX5_draft n r10 (0 : Int32) m400) (fun r411 m411 =>
if r411 = (-1 : Int32) then
(bi (fX5_bill n r38 (0 : Int32) (0 : Int32) (0 : Int32) m411) (fun r424 m424 =>
if r424 = (-1 : Int32) then
(bi (fX5_units n r38 (0 : Int32) m424) (fun r435 m435 =>
if r435 = (-1 : Int32) then
(bi (fX5_greatest n (-1 : Int32) m435) (fun r444 m444 =>
if r444 = (-2 : Int32) then
(bi (fX5_greatest n (8 : Int32) m444) (fun r455 m455 =>
if r455 = (-5 : Int32) then
(bi (fX5_billIf n r10 (-1 : Int32) m455) (fun r466 m466 =>
if r466 = (-1 : Int32) then
(bi (fX5_billIf n (0 : Int32) (101 : Int32) m466) (fun r485 m485 =>
if r485 = (-2 : Int32) then
(bi (fX5_bestShare n r10 m485) (fun r495 m495 =>
if r495 = (-1 : Int32) then
(bi (fX5_count n (15 : Int32) m495) (fun r513 m513 =>
if r513 = (-2 : Int32) then
(bi (fX5_count n (0 : Int32) m513) (fun r525 m525 =>
if r525 = 0 then
(some ((1 : Int32), m525))
else
(bi (fX5_correct n (0 : Int32) r24 (5 : Int32) m525) (fun r535 m535 =>
if r535 = (-1 : Int32) then
(bi (fX5_correct n (0 : Int32) (0 : Int32) (199981 : Int32) m535) (fun r555 m555 =>
if r555 = (-2 : Int32) then
(bi (fX5_units n (0 : Int32) (0 : Int32) m555) (fun r569 m569 =>
bi (fX5_correct n (0 : Int32) (0 : Int32) r569 m569) (fun r572 m572 =>
if r572 = (-5 : Int32) then
(bi (fX5_bill n (0 : Int32) r10 (0 : Int32) (1 : Int32) m572) (fun r585 m585 =>
if r585 = (-1 : Int32) then
(bi (fX5_units n (0 : Int32) r24 m585) (fun r595 m595 =>
if r595 = (-1 : Int32) then
(bi (fX5_addFlat n (5 : Int32) m595) (fun r604 m604 =>
if 0 ≤ r604 then
(some ((0 : Int32), m604))
else
(some ((1 : Int32), m604))))
else
(some ((0 : Int32), m595))))
else
(some ((0 : Int32), m585))))
else
(some ((0 : Int32), m572)))))
else
(some ((0 : Int32), m555))))
else
(some ((0 : Int32), m535))))))
else
(some ((0 : Int32), m513))))
else
(some ((0 : Int32), m495))))
else
(some ((0 : Int32), m485))))
else
(some ((0 : Int32), m466))))
else
(some ((0 : Int32), m455))))
else
(some ((0 : Int32), m444))))
else
(some ((0 : Int32), m435))))
else
(some ((0 : Int32), m424))))
else
(some ((0 : Int32), m411))))
else
(some ((0 : Int32), m400))))
else
(some ((0 : Int32), m381))))
else
(some ((0 : Int32), m369))))
else
(some ((0 : Int32), m350))))
else
(some ((0 : Int32), m339))))
else
(some ((0 : Int32), m326))))
else
(some ((0 : Int32), m306))))
else
(some ((0 : Int32), m295))))
else
(some ((0 : Int32), m276))))
else
(some ((0 : Int32), m263))))
else
(bi (fX5_mark n (0 : Int32) (0 : Int32) m251) (fun r263 m263 =>
if r263 = (-5 : Int32) then
(bi (fX5_move n r10 (0 : Int32) m263) (fun r276 m276 =>
if r276 = (-1 : Int32) then
(bi (fX5_move n (0 : Int32) (12 : Int32) m276) (fun r295 m295 =>
if r295 = (-2 : Int32) then
(bi (fX5_between n r10 (-1 : Int32) m295) (fun r306 m306 =>
if r306 = (-1 : Int32) then
(bi (fX5_between n (0 : Int32) (1001 : Int32) m306) (fun r326 m326 =>
if r326 = (-2 : Int32) then
(bi (fX5_correct n r38 (0 : Int32) (-1 : Int32) m326) (fun r339 m339 =>
if r339 = (-1 : Int32) then
(bi (fX5_flat n r10 (99 : Int32) m339) (fun r350 m350 =>
if r350 = (-1 : Int32) then
(bi (fX5_flat n (0 : Int32) (8 : Int32) m350) (fun r369 m369 =>
if r369 = (-2 : Int32) then
(bi (fX5_device n r24 (99 : Int32) m369) (fun r381 m381 =>
if r381 = (-1 : Int32) then
(bi (fX5_device n (0 : Int32) (6 : Int32) m381) (fun r400 m400 =>
if r400 = (-2 : Int32) then
(bi (fX5_draft n r10 (0 : Int32) m400) (fun r411 m411 =>
if r411 = (-1 : Int32) then
(bi (fX5_bill n r38 (0 : Int32) (0 : Int32) (0 : Int32) m411) (fun r424 m424 =>
if r424 = (-1 : Int32) then
(bi (fX5_units n r38 (0 : Int32) m424) (fun r435 m435 =>
if r435 = (-1 : Int32) then
(bi (fX5_greatest n (-1 : Int32) m435) (fun r444 m444 =>
if r444 = (-2 : Int32) then
(bi (fX5_greatest n (8 : Int32) m444) (fun r455 m455 =>
if r455 = (-5 : Int32) then
(bi (fX5_billIf n r10 (-1 : Int32) m455) (fun r466 m466 =>
if r466 = (-1 : Int32) then
(bi (fX5_billIf n (0 : Int32) (101 : Int32) m466) (fun r485 m485 =>
if r485 = (-2 : Int32) then
(bi (fX5_bestShare n r10 m485) (fun r495 m495 =>
if r495 = (-1 : Int32) then
(bi (fX5_count n (15 : Int32) m495) (fun r513 m513 =>
if r513 = (-2 : Int32) then
(bi (fX5_count n (0 : Int32) m513) (fun r525 m525 =>
if r525 = 0 then
(some ((1 : Int32), m525))
else
(bi (fX5_correct n (0 : Int32) r24 (5 : Int32) m525) (fun r535 m535 =>
if r535 = (-1 : Int32) then
(bi (fX5_correct n (0 : Int32) (0 : Int32) (199981 : Int32) m535) (fun r555 m555 =>
if r555 = (-2 : Int32) then
(bi (fX5_units n (0 : Int32) (0 : Int32) m555) (fun r569 m569 =>
bi (fX5_correct n (0 : Int32) (0 : Int32) r569 m569) (fun r572 m572 =>
if r572 = (-5 : Int32) then
(bi (fX5_bill n (0 : Int32) r10 (0 : Int32) (1 : Int32) m572) (fun r585 m585 =>
if r585 = (-1 : Int32) then
(bi (fX5_units n (0 : Int32) r24 m585) (fun r595 m595 =>
if r595 = (-1 : Int32) then
(bi (fX5_addFlat n (5 : Int32) m595) (fun r604 m604 =>
if 0 ≤ r604 then
(some ((0 : Int32), m604))
else
(some ((1 : Int32), m604))))
else
(some ((0 : Int32), m595))))
else
(some ((0 : Int32), m585))))
else
(some ((0 : Int32), m572)))))
else
(some ((0 : Int32), m555))))
else
(some ((0 : Int32), m535))))))
else
(some ((0 : Int32), m513))))
else
(some ((0 : Int32), m495))))
else
(some ((0 : Int32), m485))))
else
(some ((0 : Int32), m466))))
else
(some ((0 : Int32), m455))))
else
(some ((0 : Int32), m444))))
else
(some ((0 : Int32), m435))))
else
(some ((0 : Int32), m424))))
else
(some ((0 : Int32), m411))))
else
(some ((0 : Int32), m400))))
else
(some ((0 : Int32), m381))))
else
(some ((0 : Int32), m369))))
else
(some ((0 : Int32), m350))))
else
(some ((0 : Int32), m339))))
else
(some ((0 : Int32), m326))))
else
(some ((0 : Int32), m306))))
else
(some ((0 : Int32), m295))))
else
(some ((0 : Int32), m276))))
else
(some ((0 : Int32), m263))))))
else
(some ((0 : Int32), m239))))
else
(some ((0 : Int32), m228)))))
else
(some ((0 : Int32), m212))))
else
(some ((0 : Int32), m192))))
else
(some ((0 : Int32), m181)))))
else
(some ((0 : Int32), m164))))
else
(some ((0 : Int32), m145))))
else
(some ((0 : Int32), m125))))
else
(some ((0 : Int32), m105))))
else
(some ((0 : Int32), m86))))
else
(some ((0 : Int32), m67))))
else
(some ((0 : Int32), m55))))))
abbrev rmL_refusesAny1 : Room := { frames := 6, cells := 0, slots := 0, locals := 146 }
set_option maxRecDepth 100000 in
set_option maxHeartbeats 4000000 in
theorem tL_refusesAny1 {l : Launch} {D : va_G} {ad : Nat → Nat} {dA : Nat → ClassId} {t1 t2 : Nat} (hI : hb_I 241 ad) (n : Nat) (μ : hb_m) : hb_M (hb_Qi vwCl kdX 241 ad D dA) l yL_refusesAny wsL_refusesAny rmL_refusesAny1 vwCl kdX 241 ad D dA (tbX t1 t2) nwX [.ref (ad 228), .int (1 : Int32)] μ (fL_refusesAny1 n μ) := by
  refine hb_start (cc := cL_refusesAny) (maxL := 5) (ret := (some .boolean)) (by decide) rfl hI (Nat.le_of_ble_eq_true rfl) [(0, .ref (ad 228)), (1, .int (1 : Int32))] rfl ?_
  intro p e s m args below meth c hC hr
  rw [fL_refusesAny1]
  refine hr_iload_n hC dL_refusesAny_0 rfl 1 rfl ?_
  refine hr_if_neT (tgt := 8) hC dL_refusesAny_1 (by decide) (by decide) ?_
  refine hr_aload_n hC dL_refusesAny_8 rfl 0 rfl ?_
  refine hr_iconst (v := 1) hC dL_refusesAny_9 (by decide) ?_
  refine hr_callVi (As := [.int (1 : Int32)]) (k := 228) hC rfl (tX5_count (t1 := t1) (t2 := t2) hI n (1 : Int32) μ) (cwV 1 hC.1.2.2.2.2 gL_refusesAny_X5_count rfl rfl rfl (by decide +kernel) ⟨Nat.le_of_ble_eq_true rfl, Nat.le_of_ble_eq_true rfl⟩) kx228 rfl rfl rfl (Nat.le_of_ble_eq_true rfl) dL_refusesAny_10 (fun r10 m10 => ?_)
  refine hr_istore_n (lv' := [(2, .int r10), (0, .ref (ad 228)), (1, .int (1 : Int32))]) hC dL_refusesAny_13 rfl (by decide) rfl ?_
  refine hr_iload_n hC dL_refusesAny_14 rfl 2 rfl ?_
  refine hr_if_neT (tgt := 22) hC dL_refusesAny_15 (by decide) (by decide) ?_
  refine hr_aload_n hC dL_refusesAny_22 rfl 1 rfl ?_
  refine hr_iconst (v := 2) hC dL_refusesAny_23 (by decide) ?_
  refine hr_callVi (As := [.int (2 : Int32)]) (k := 228) hC rfl (tX5_count (t1 := t1) (t2 := t2) hI n (2 : Int32) m10) (cwV 1 hC.1.2.2.2.2 gL_refusesAny_X5_count rfl rfl rfl (by decide +kernel) ⟨Nat.le_of_ble_eq_true rfl, Nat.le_of_ble_eq_true rfl⟩) kx228 rfl rfl rfl (Nat.le_of_ble_eq_true rfl) dL_refusesAny_24 (fun r24 m24 => ?_)
  refine hr_istore_n (lv' := [(3, .int r24), (2, .int r10), (0, .ref (ad 228)), (1, .int (1 : Int32))]) hC dL_refusesAny_27 rfl (by decide) rfl ?_
  refine hr_iload_n hC dL_refusesAny_28 rfl 3 rfl ?_
  refine hr_if_neT (tgt := 36) hC dL_refusesAny_29 (by decide) (by decide) ?_
  refine hr_aload_n hC dL_refusesAny_36 rfl 2 rfl ?_
  refine hr_iconst (v := 0) hC dL_refusesAny_37 (by decide) ?_
  refine hr_callVi (As := [.int (0 : Int32)]) (k := 228) hC rfl (tX5_count (t1 := t1) (t2 := t2) hI n (0 : Int32) m24) (cwV 1 hC.1.2.2.2.2 gL_refusesAny_X5_count rfl rfl rfl (by decide +kernel) ⟨Nat.le_of_ble_eq_true rfl, Nat.le_of_ble_eq_true rfl⟩) kx228 rfl rfl rfl (Nat.le_of_ble_eq_true rfl) dL_refusesAny_38 (fun r38 m38 => ?_)
  refine hr_istore (lv' := [(4, .int r38), (3, .int r24), (2, .int r10), (0, .ref (ad 228)), (1, .int (1 : Int32))]) hC dL_refusesAny_41 (by decide) rfl ?_
  refine hr_aload_n hC dL_refusesAny_43 rfl 3 rfl ?_
  refine hr_iload_n hC dL_refusesAny_44 rfl 4 rfl ?_
  refine hr_if_neT (tgt := 52) hC dL_refusesAny_45 (by decide) (by decide) ?_
  refine hr_sipush (v := 201) hC dL_refusesAny_52 (by decide) ?_
  refine hr_callVi (As := [.int (201 : Int32)]) (k := 228) hC rfl (tX5_addFlat (t1 := t1) (t2 := t2) hI n (201 : Int32) m38) (cwV 1 hC.1.2.2.2.2 gL_refusesAny_X5_addFlat rfl rfl rfl (by decide +kernel) ⟨Nat.le_of_ble_eq_true rfl, Nat.le_of_ble_eq_true rfl⟩) kx228 rfl rfl rfl (Nat.le_of_ble_eq_true rfl) dL_refusesAny_55 (fun r55 m55 => ?_)
  refine hr_bipush (v := -2) hC dL_refusesAny_58 (by decide) ?_
  refine hr_icmp_ne (tgt := 271) hC dL_refusesAny_60 (by decide) (fun _ => ?_) (fun _ => ?_)
  · refine hr_aload_n hC dL_refusesAny_63 rfl 3 rfl ?_
    refine hr_iload_n hC dL_refusesAny_64 rfl 2 rfl ?_
    refine hr_bipush (v := 99) hC dL_refusesAny_65 (by decide) ?_
    refine hr_callVi (As := [.int r10, .int (99 : Int32)]) (k := 228) hC rfl (tX5_addDevice (t1 := t1) (t2 := t2) hI n r10 (99 : Int32) m55) (cwV 2 hC.1.2.2.2.2 gL_refusesAny_X5_addDevice rfl rfl rfl (by decide +kernel) ⟨Nat.le_of_ble_eq_true rfl, Nat.le_of_ble_eq_true rfl⟩) kx228 rfl rfl rfl (Nat.le_of_ble_eq_true rfl) dL_refusesAny_67 (fun r67 m67 => ?_)
    refine hr_iconst (v := -1) hC dL_refusesAny_70 (by decide) ?_
    refine hr_icmp_ne (tgt := 271) hC dL_refusesAny_71 (by decide) (fun _ => ?_) (fun _ => ?_)
    · refine hr_aload_n hC dL_refusesAny_74 rfl 3 rfl ?_
      refine hr_iconst (v := 0) hC dL_refusesAny_75 (by decide) ?_
      refine hr_iload_n hC dL_refusesAny_76 rfl 4 rfl ?_
      refine hr_if_neT (tgt := 84) hC dL_refusesAny_77 (by decide) (by decide) ?_
      refine hr_bipush (v := 21) hC dL_refusesAny_84 (by decide) ?_
      refine hr_callVi (As := [.int (0 : Int32), .int (21 : Int32)]) (k := 228) hC rfl (tX5_addDevice (t1 := t1) (t2 := t2) hI n (0 : Int32) (21 : Int32) m67) (cwV 2 hC.1.2.2.2.2 gL_refusesAny_X5_addDevice rfl rfl rfl (by decide +kernel) ⟨Nat.le_of_ble_eq_true rfl, Nat.le_of_ble_eq_true rfl⟩) kx228 rfl rfl rfl (Nat.le_of_ble_eq_true rfl) dL_refusesAny_86 (fun r86 m86 => ?_)
      refine hr_bipush (v := -2) hC dL_refusesAny_89 (by decide) ?_
      refine hr_icmp_ne (tgt := 271) hC dL_refusesAny_91 (by decide) (fun _ => ?_) (fun _ => ?_)
      · refine hr_aload_n hC dL_refusesAny_94 rfl 3 rfl ?_
        refine hr_iload_n hC dL_refusesAny_95 rfl 4 rfl ?_
        refine hr_if_neT (tgt := 103) hC dL_refusesAny_96 (by decide) (by decide) ?_
        refine hr_iconst (v := 3) hC dL_refusesAny_103 (by decide) ?_
        refine hr_iconst (v := 0) hC dL_refusesAny_104 (by decide) ?_
        refine hr_callVi (As := [.int (3 : Int32), .int (0 : Int32)]) (k := 228) hC rfl (tX5_set (t1 := t1) (t2 := t2) hI n (3 : Int32) (0 : Int32) m86) (cwV 2 hC.1.2.2.2.2 gL_refusesAny_X5_set rfl rfl rfl (by decide +kernel) ⟨Nat.le_of_ble_eq_true rfl, Nat.le_of_ble_eq_true rfl⟩) kx228 rfl rfl rfl (Nat.le_of_ble_eq_true rfl) dL_refusesAny_105 (fun r105 m105 => ?_)
        refine hr_bipush (v := -2) hC dL_refusesAny_108 (by decide) ?_
        refine hr_icmp_ne (tgt := 271) hC dL_refusesAny_110 (by decide) (fun _ => ?_) (fun _ => ?_)
        · refine hr_aload_n hC dL_refusesAny_113 rfl 3 rfl ?_
          refine hr_iconst (v := 0) hC dL_refusesAny_114 (by decide) ?_
          refine hr_iload_n hC dL_refusesAny_115 rfl 4 rfl ?_
          refine hr_if_neT (tgt := 123) hC dL_refusesAny_116 (by decide) (by decide) ?_
          refine hr_ldc (v := 100000) hC dL_refusesAny_123 hmL_refusesAny1_44 ?_
          refine hr_callVi (As := [.int (0 : Int32), .int (100000 : Int32)]) (k := 228) hC rfl (tX5_set (t1 := t1) (t2 := t2) hI n (0 : Int32) (100000 : Int32) m105) (cwV 2 hC.1.2.2.2.2 gL_refusesAny_X5_set rfl rfl rfl (by decide +kernel) ⟨Nat.le_of_ble_eq_true rfl, Nat.le_of_ble_eq_true rfl⟩) kx228 rfl rfl rfl (Nat.le_of_ble_eq_true rfl) dL_refusesAny_125 (fun r125 m125 => ?_)
          refine hr_bipush (v := -2) hC dL_refusesAny_128 (by decide) ?_
          refine hr_icmp_ne (tgt := 271) hC dL_refusesAny_130 (by decide) (fun _ => ?_) (fun _ => ?_)
          · refine hr_aload_n hC dL_refusesAny_133 rfl 3 rfl ?_
            refine hr_iconst (v := 1) hC dL_refusesAny_134 (by decide) ?_
            refine hr_iload_n hC dL_refusesAny_135 rfl 4 rfl ?_
            refine hr_if_neT (tgt := 143) hC dL_refusesAny_136 (by decide) (by decide) ?_
            refine hr_bipush (v := 101) hC dL_refusesAny_143 (by decide) ?_
            refine hr_callVi (As := [.int (1 : Int32), .int (101 : Int32)]) (k := 228) hC rfl (tX5_set (t1 := t1) (t2 := t2) hI n (1 : Int32) (101 : Int32) m125) (cwV 2 hC.1.2.2.2.2 gL_refusesAny_X5_set rfl rfl rfl (by decide +kernel) ⟨Nat.le_of_ble_eq_true rfl, Nat.le_of_ble_eq_true rfl⟩) kx228 rfl rfl rfl (Nat.le_of_ble_eq_true rfl) dL_refusesAny_145 (fun r145 m145 => ?_)
            refine hr_bipush (v := -2) hC dL_refusesAny_148 (by decide) ?_
            refine hr_icmp_ne (tgt := 271) hC dL_refusesAny_150 (by decide) (fun _ => ?_) (fun _ => ?_)
            · refine hr_aload_n hC dL_refusesAny_153 rfl 3 rfl ?_
              refine hr_iconst (v := 2) hC dL_refusesAny_154 (by decide) ?_
              refine hr_iload_n hC dL_refusesAny_155 rfl 4 rfl ?_
              refine hr_if_neT (tgt := 163) hC dL_refusesAny_156 (by decide) (by decide) ?_
              refine hr_iconst (v := 2) hC dL_refusesAny_163 (by decide) ?_
              refine hr_callVi (As := [.int (2 : Int32), .int (2 : Int32)]) (k := 228) hC rfl (tX5_set (t1 := t1) (t2 := t2) hI n (2 : Int32) (2 : Int32) m145) (cwV 2 hC.1.2.2.2.2 gL_refusesAny_X5_set rfl rfl rfl (by decide +kernel) ⟨Nat.le_of_ble_eq_true rfl, Nat.le_of_ble_eq_true rfl⟩) kx228 rfl rfl rfl (Nat.le_of_ble_eq_true rfl) dL_refusesAny_164 (fun r164 m164 => ?_)
              refine hr_bipush (v := -2) hC dL_refusesAny_167 (by decide) ?_
              refine hr_icmp_ne (tgt := 271) hC dL_refusesAny_169 (by decide) (fun _ => ?_) (fun _ => ?_)
              · refine hr_aload_n hC dL_refusesAny_172 rfl 3 rfl ?_
                refine hr_iload_n hC dL_refusesAny_173 rfl 4 rfl ?_
                refine hr_aload_n hC dL_refusesAny_174 rfl 3 rfl ?_
                refine hr_iconst (v := 4) hC dL_refusesAny_175 (by decide) ?_
                refine hr_iload_n hC dL_refusesAny_176 rfl 4 rfl ?_
                refine hr_iadd hC dL_refusesAny_177 ?_
                refine hr_callVi (As := [.int ((4 : Int32) + (1 : Int32))]) (k := 228) hC rfl (tX5_count (t1 := t1) (t2 := t2) hI n ((4 : Int32) + (1 : Int32)) m164) (cwV 1 hC.1.2.2.2.2 gL_refusesAny_X5_count rfl rfl rfl (by decide +kernel) ⟨Nat.le_of_ble_eq_true rfl, Nat.le_of_ble_eq_true rfl⟩) kx228 rfl rfl rfl (Nat.le_of_ble_eq_true rfl) dL_refusesAny_178 (fun r178 m178 => ?_)
                refine hr_callVi (As := [.int (1 : Int32), .int r178]) (k := 228) hC rfl (tX5_set (t1 := t1) (t2 := t2) hI n (1 : Int32) r178 m178) (cwV 2 hC.1.2.2.2.2 gL_refusesAny_X5_set rfl rfl rfl (by decide +kernel) ⟨Nat.le_of_ble_eq_true rfl, Nat.le_of_ble_eq_true rfl⟩) kx228 rfl rfl rfl (Nat.le_of_ble_eq_true rfl) dL_refusesAny_181 (fun r181 m181 => ?_)
                refine hr_bipush (v := -5) hC dL_refusesAny_184 (by decide) ?_
                refine hr_icmp_ne (tgt := 271) hC dL_refusesAny_186 (by decide) (fun _ => ?_) (fun _ => ?_)
                · refine hr_aload_n hC dL_refusesAny_189 rfl 3 rfl ?_
                  refine hr_iload_n hC dL_refusesAny_190 rfl 1 rfl ?_
                  refine hr_iconst (v := -1) hC dL_refusesAny_191 (by decide) ?_
                  refine hr_callVi (As := [.int r24, .int (-1 : Int32)]) (k := 228) hC rfl (tX5_read (t1 := t1) (t2 := t2) hI n r24 (-1 : Int32) m181) (cwV 2 hC.1.2.2.2.2 gL_refusesAny_X5_read rfl rfl rfl (by decide +kernel) ⟨Nat.le_of_ble_eq_true rfl, Nat.le_of_ble_eq_true rfl⟩) kx228 rfl rfl rfl (Nat.le_of_ble_eq_true rfl) dL_refusesAny_192 (fun r192 m192 => ?_)
                  refine hr_iconst (v := -1) hC dL_refusesAny_195 (by decide) ?_
                  refine hr_icmp_ne (tgt := 271) hC dL_refusesAny_196 (by decide) (fun _ => ?_) (fun _ => ?_)
                  · refine hr_aload_n hC dL_refusesAny_199 rfl 3 rfl ?_
                    refine hr_iconst (v := 0) hC dL_refusesAny_200 (by decide) ?_
                    refine hr_iload_n hC dL_refusesAny_201 rfl 4 rfl ?_
                    refine hr_if_neT (tgt := 209) hC dL_refusesAny_202 (by decide) (by decide) ?_
                    refine hr_sipush (v := 10000) hC dL_refusesAny_209 (by decide) ?_
                    refine hr_callVi (As := [.int (0 : Int32), .int (10000 : Int32)]) (k := 228) hC rfl (tX5_read (t1 := t1) (t2 := t2) hI n (0 : Int32) (10000 : Int32) m192) (cwV 2 hC.1.2.2.2.2 gL_refusesAny_X5_read rfl rfl rfl (by decide +kernel) ⟨Nat.le_of_ble_eq_true rfl, Nat.le_of_ble_eq_true rfl⟩) kx228 rfl rfl rfl (Nat.le_of_ble_eq_true rfl) dL_refusesAny_212 (fun r212 m212 => ?_)
                    refine hr_bipush (v := -2) hC dL_refusesAny_215 (by decide) ?_
                    refine hr_icmp_ne (tgt := 271) hC dL_refusesAny_217 (by decide) (fun _ => ?_) (fun _ => ?_)
                    · refine hr_aload_n hC dL_refusesAny_220 rfl 3 rfl ?_
                      refine hr_iconst (v := 0) hC dL_refusesAny_221 (by decide) ?_
                      refine hr_aload_n hC dL_refusesAny_222 rfl 3 rfl ?_
                      refine hr_iconst (v := 0) hC dL_refusesAny_223 (by decide) ?_
                      refine hr_iconst (v := 3) hC dL_refusesAny_224 (by decide) ?_
                      refine hr_callVi (As := [.int (0 : Int32), .int (3 : Int32)]) (k := 228) hC rfl (tX5_device (t1 := t1) (t2 := t2) hI n (0 : Int32) (3 : Int32) m212) (cwV 2 hC.1.2.2.2.2 gL_refusesAny_X5_device rfl rfl rfl (by decide +kernel) ⟨Nat.le_of_ble_eq_true rfl, Nat.le_of_ble_eq_true rfl⟩) kx228 rfl rfl rfl (Nat.le_of_ble_eq_true rfl) dL_refusesAny_225 (fun r225 m225 => ?_)
                      refine hr_callVi (As := [.int (0 : Int32), .int r225]) (k := 228) hC rfl (tX5_read (t1 := t1) (t2 := t2) hI n (0 : Int32) r225 m225) (cwV 2 hC.1.2.2.2.2 gL_refusesAny_X5_read rfl rfl rfl (by decide +kernel) ⟨Nat.le_of_ble_eq_true rfl, Nat.le_of_ble_eq_true rfl⟩) kx228 rfl rfl rfl (Nat.le_of_ble_eq_true rfl) dL_refusesAny_228 (fun r228 m228 => ?_)
                      refine hr_bipush (v := -5) hC dL_refusesAny_231 (by decide) ?_
                      refine hr_icmp_ne (tgt := 271) hC dL_refusesAny_233 (by decide) (fun _ => ?_) (fun _ => ?_)
                      · refine hr_aload_n hC dL_refusesAny_236 rfl 3 rfl ?_
                        refine hr_iload_n hC dL_refusesAny_237 rfl 1 rfl ?_
                        refine hr_iconst (v := 1) hC dL_refusesAny_238 (by decide) ?_
                        refine hr_callVi (As := [.int r24, .int (1 : Int32)]) (k := 228) hC rfl (tX5_mark (t1 := t1) (t2 := t2) hI n r24 (1 : Int32) m228) (cwV 2 hC.1.2.2.2.2 gL_refusesAny_X5_mark rfl rfl rfl (by decide +kernel) ⟨Nat.le_of_ble_eq_true rfl, Nat.le_of_ble_eq_true rfl⟩) kx228 rfl rfl rfl (Nat.le_of_ble_eq_true rfl) dL_refusesAny_239 (fun r239 m239 => ?_)
                        refine hr_iconst (v := -1) hC dL_refusesAny_242 (by decide) ?_
                        refine hr_icmp_ne (tgt := 271) hC dL_refusesAny_243 (by decide) (fun _ => ?_) (fun _ => ?_)
                        · refine hr_aload_n hC dL_refusesAny_246 rfl 3 rfl ?_
                          refine hr_iconst (v := 0) hC dL_refusesAny_247 (by decide) ?_
                          refine hr_aload_n hC dL_refusesAny_248 rfl 3 rfl ?_
                          refine hr_iconst (v := 0) hC dL_refusesAny_249 (by decide) ?_
                          refine hr_iconst (v := 4) hC dL_refusesAny_250 (by decide) ?_
                          refine hr_callVi (As := [.int (0 : Int32), .int (4 : Int32)]) (k := 228) hC rfl (tX5_device (t1 := t1) (t2 := t2) hI n (0 : Int32) (4 : Int32) m239) (cwV 2 hC.1.2.2.2.2 gL_refusesAny_X5_device rfl rfl rfl (by decide +kernel) ⟨Nat.le_of_ble_eq_true rfl, Nat.le_of_ble_eq_true rfl⟩) kx228 rfl rfl rfl (Nat.le_of_ble_eq_true rfl) dL_refusesAny_251 (fun r251 m251 => ?_)
                          refine hr_iconst (v := 1) hC dL_refusesAny_254 (by decide) ?_
                          refine hr_icmp_ne (tgt := 262) hC dL_refusesAny_255 (by decide) (fun _ => ?_) (fun _ => ?_)
                          · refine hr_iconst (v := 1) hC dL_refusesAny_258 (by decide) ?_
                            refine hr_goto (tgt := 263) hC dL_refusesAny_259 (by decide) ?_
                            refine hr_callVi (As := [.int (0 : Int32), .int (1 : Int32)]) (k := 228) hC rfl (tX5_mark (t1 := t1) (t2 := t2) hI n (0 : Int32) (1 : Int32) m251) (cwV 2 hC.1.2.2.2.2 gL_refusesAny_X5_mark rfl rfl rfl (by decide +kernel) ⟨Nat.le_of_ble_eq_true rfl, Nat.le_of_ble_eq_true rfl⟩) kx228 rfl rfl rfl (Nat.le_of_ble_eq_true rfl) dL_refusesAny_263 (fun r263 m263 => ?_)
                            refine hr_bipush (v := -5) hC dL_refusesAny_266 (by decide) ?_
                            refine hr_icmp_eq (tgt := 273) hC dL_refusesAny_268 (by decide) (fun _ => ?_) (fun _ => ?_)
                            · refine hr_aload_n hC dL_refusesAny_273 rfl 3 rfl ?_
                              refine hr_iload_n hC dL_refusesAny_274 rfl 2 rfl ?_
                              refine hr_iconst (v := 0) hC dL_refusesAny_275 (by decide) ?_
                              refine hr_callVi (As := [.int r10, .int (0 : Int32)]) (k := 228) hC rfl (tX5_move (t1 := t1) (t2 := t2) hI n r10 (0 : Int32) m263) (cwV 2 hC.1.2.2.2.2 gL_refusesAny_X5_move rfl rfl rfl (by decide +kernel) ⟨Nat.le_of_ble_eq_true rfl, Nat.le_of_ble_eq_true rfl⟩) kx228 rfl rfl rfl (Nat.le_of_ble_eq_true rfl) dL_refusesAny_276 (fun r276 m276 => ?_)
                              refine hr_iconst (v := -1) hC dL_refusesAny_279 (by decide) ?_
                              refine hr_icmp_ne (tgt := 521) hC dL_refusesAny_280 (by decide) (fun _ => ?_) (fun _ => ?_)
                              · refine hr_aload_n hC dL_refusesAny_283 rfl 3 rfl ?_
                                refine hr_iconst (v := 0) hC dL_refusesAny_284 (by decide) ?_
                                refine hr_iload_n hC dL_refusesAny_285 rfl 4 rfl ?_
                                refine hr_if_neT (tgt := 293) hC dL_refusesAny_286 (by decide) (by decide) ?_
                                refine hr_bipush (v := 12) hC dL_refusesAny_293 (by decide) ?_
                                refine hr_callVi (As := [.int (0 : Int32), .int (12 : Int32)]) (k := 228) hC rfl (tX5_move (t1 := t1) (t2 := t2) hI n (0 : Int32) (12 : Int32) m276) (cwV 2 hC.1.2.2.2.2 gL_refusesAny_X5_move rfl rfl rfl (by decide +kernel) ⟨Nat.le_of_ble_eq_true rfl, Nat.le_of_ble_eq_true rfl⟩) kx228 rfl rfl rfl (Nat.le_of_ble_eq_true rfl) dL_refusesAny_295 (fun r295 m295 => ?_)
                                refine hr_bipush (v := -2) hC dL_refusesAny_298 (by decide) ?_
                                refine hr_icmp_ne (tgt := 521) hC dL_refusesAny_300 (by decide) (fun _ => ?_) (fun _ => ?_)
                                · refine hr_aload_n hC dL_refusesAny_303 rfl 3 rfl ?_
                                  refine hr_iload_n hC dL_refusesAny_304 rfl 2 rfl ?_
                                  refine hr_iconst (v := -1) hC dL_refusesAny_305 (by decide) ?_
                                  refine hr_callVi (As := [.int r10, .int (-1 : Int32)]) (k := 228) hC rfl (tX5_between (t1 := t1) (t2 := t2) hI n r10 (-1 : Int32) m295) (cwV 2 hC.1.2.2.2.2 gL_refusesAny_X5_between rfl rfl rfl (by decide +kernel) ⟨Nat.le_of_ble_eq_true rfl, Nat.le_of_ble_eq_true rfl⟩) kx228 rfl rfl rfl (Nat.le_of_ble_eq_true rfl) dL_refusesAny_306 (fun r306 m306 => ?_)
                                  refine hr_iconst (v := -1) hC dL_refusesAny_309 (by decide) ?_
                                  refine hr_icmp_ne (tgt := 521) hC dL_refusesAny_310 (by decide) (fun _ => ?_) (fun _ => ?_)
                                  · refine hr_aload_n hC dL_refusesAny_313 rfl 3 rfl ?_
                                    refine hr_iconst (v := 0) hC dL_refusesAny_314 (by decide) ?_
                                    refine hr_iload_n hC dL_refusesAny_315 rfl 4 rfl ?_
                                    refine hr_if_neT (tgt := 323) hC dL_refusesAny_316 (by decide) (by decide) ?_
                                    refine hr_sipush (v := 1001) hC dL_refusesAny_323 (by decide) ?_
                                    refine hr_callVi (As := [.int (0 : Int32), .int (1001 : Int32)]) (k := 228) hC rfl (tX5_between (t1 := t1) (t2 := t2) hI n (0 : Int32) (1001 : Int32) m306) (cwV 2 hC.1.2.2.2.2 gL_refusesAny_X5_between rfl rfl rfl (by decide +kernel) ⟨Nat.le_of_ble_eq_true rfl, Nat.le_of_ble_eq_true rfl⟩) kx228 rfl rfl rfl (Nat.le_of_ble_eq_true rfl) dL_refusesAny_326 (fun r326 m326 => ?_)
                                    refine hr_bipush (v := -2) hC dL_refusesAny_329 (by decide) ?_
                                    refine hr_icmp_ne (tgt := 521) hC dL_refusesAny_331 (by decide) (fun _ => ?_) (fun _ => ?_)
                                    · refine hr_aload_n hC dL_refusesAny_334 rfl 3 rfl ?_
                                      refine hr_iload hC dL_refusesAny_335 0 rfl ?_
                                      refine hr_iconst (v := 0) hC dL_refusesAny_337 (by decide) ?_
                                      refine hr_iconst (v := -1) hC dL_refusesAny_338 (by decide) ?_
                                      refine hr_callVi (As := [.int r38, .int (0 : Int32), .int (-1 : Int32)]) (k := 228) hC rfl (tX5_correct (t1 := t1) (t2 := t2) hI n r38 (0 : Int32) (-1 : Int32) m326) (cwV 3 hC.1.2.2.2.2 gL_refusesAny_X5_correct rfl rfl rfl (by decide +kernel) ⟨Nat.le_of_ble_eq_true rfl, Nat.le_of_ble_eq_true rfl⟩) kx228 rfl rfl rfl (Nat.le_of_ble_eq_true rfl) dL_refusesAny_339 (fun r339 m339 => ?_)
                                      refine hr_iconst (v := -1) hC dL_refusesAny_342 (by decide) ?_
                                      refine hr_icmp_ne (tgt := 521) hC dL_refusesAny_343 (by decide) (fun _ => ?_) (fun _ => ?_)
                                      · refine hr_aload_n hC dL_refusesAny_346 rfl 3 rfl ?_
                                        refine hr_iload_n hC dL_refusesAny_347 rfl 2 rfl ?_
                                        refine hr_bipush (v := 99) hC dL_refusesAny_348 (by decide) ?_
                                        refine hr_callVi (As := [.int r10, .int (99 : Int32)]) (k := 228) hC rfl (tX5_flat (t1 := t1) (t2 := t2) hI n r10 (99 : Int32) m339) (cwV 2 hC.1.2.2.2.2 gL_refusesAny_X5_flat rfl rfl rfl (by decide +kernel) ⟨Nat.le_of_ble_eq_true rfl, Nat.le_of_ble_eq_true rfl⟩) kx228 rfl rfl rfl (Nat.le_of_ble_eq_true rfl) dL_refusesAny_350 (fun r350 m350 => ?_)
                                        refine hr_iconst (v := -1) hC dL_refusesAny_353 (by decide) ?_
                                        refine hr_icmp_ne (tgt := 521) hC dL_refusesAny_354 (by decide) (fun _ => ?_) (fun _ => ?_)
                                        · refine hr_aload_n hC dL_refusesAny_357 rfl 3 rfl ?_
                                          refine hr_iconst (v := 0) hC dL_refusesAny_358 (by decide) ?_
                                          refine hr_iload_n hC dL_refusesAny_359 rfl 4 rfl ?_
                                          refine hr_if_neT (tgt := 367) hC dL_refusesAny_360 (by decide) (by decide) ?_
                                          refine hr_bipush (v := 8) hC dL_refusesAny_367 (by decide) ?_
                                          refine hr_callVi (As := [.int (0 : Int32), .int (8 : Int32)]) (k := 228) hC rfl (tX5_flat (t1 := t1) (t2 := t2) hI n (0 : Int32) (8 : Int32) m350) (cwV 2 hC.1.2.2.2.2 gL_refusesAny_X5_flat rfl rfl rfl (by decide +kernel) ⟨Nat.le_of_ble_eq_true rfl, Nat.le_of_ble_eq_true rfl⟩) kx228 rfl rfl rfl (Nat.le_of_ble_eq_true rfl) dL_refusesAny_369 (fun r369 m369 => ?_)
                                          refine hr_bipush (v := -2) hC dL_refusesAny_372 (by decide) ?_
                                          refine hr_icmp_ne (tgt := 521) hC dL_refusesAny_374 (by decide) (fun _ => ?_) (fun _ => ?_)
                                          · refine hr_aload_n hC dL_refusesAny_377 rfl 3 rfl ?_
                                            refine hr_iload_n hC dL_refusesAny_378 rfl 1 rfl ?_
                                            refine hr_bipush (v := 99) hC dL_refusesAny_379 (by decide) ?_
                                            refine hr_callVi (As := [.int r24, .int (99 : Int32)]) (k := 228) hC rfl (tX5_device (t1 := t1) (t2 := t2) hI n r24 (99 : Int32) m369) (cwV 2 hC.1.2.2.2.2 gL_refusesAny_X5_device rfl rfl rfl (by decide +kernel) ⟨Nat.le_of_ble_eq_true rfl, Nat.le_of_ble_eq_true rfl⟩) kx228 rfl rfl rfl (Nat.le_of_ble_eq_true rfl) dL_refusesAny_381 (fun r381 m381 => ?_)
                                            refine hr_iconst (v := -1) hC dL_refusesAny_384 (by decide) ?_
                                            refine hr_icmp_ne (tgt := 521) hC dL_refusesAny_385 (by decide) (fun _ => ?_) (fun _ => ?_)
                                            · refine hr_aload_n hC dL_refusesAny_388 rfl 3 rfl ?_
                                              refine hr_iconst (v := 0) hC dL_refusesAny_389 (by decide) ?_
                                              refine hr_iload_n hC dL_refusesAny_390 rfl 4 rfl ?_
                                              refine hr_if_neT (tgt := 398) hC dL_refusesAny_391 (by decide) (by decide) ?_
                                              refine hr_bipush (v := 6) hC dL_refusesAny_398 (by decide) ?_
                                              refine hr_callVi (As := [.int (0 : Int32), .int (6 : Int32)]) (k := 228) hC rfl (tX5_device (t1 := t1) (t2 := t2) hI n (0 : Int32) (6 : Int32) m381) (cwV 2 hC.1.2.2.2.2 gL_refusesAny_X5_device rfl rfl rfl (by decide +kernel) ⟨Nat.le_of_ble_eq_true rfl, Nat.le_of_ble_eq_true rfl⟩) kx228 rfl rfl rfl (Nat.le_of_ble_eq_true rfl) dL_refusesAny_400 (fun r400 m400 => ?_)
                                              refine hr_bipush (v := -2) hC dL_refusesAny_403 (by decide) ?_
                                              refine hr_icmp_ne (tgt := 521) hC dL_refusesAny_405 (by decide) (fun _ => ?_) (fun _ => ?_)
                                              · refine hr_aload_n hC dL_refusesAny_408 rfl 3 rfl ?_
                                                refine hr_iload_n hC dL_refusesAny_409 rfl 2 rfl ?_
                                                refine hr_iconst (v := 0) hC dL_refusesAny_410 (by decide) ?_
                                                refine hr_callVi (As := [.int r10, .int (0 : Int32)]) (k := 228) hC rfl (tX5_draft (t1 := t1) (t2 := t2) hI n r10 (0 : Int32) m400) (cwV 2 hC.1.2.2.2.2 gL_refusesAny_X5_draft rfl rfl rfl (by decide +kernel) ⟨Nat.le_of_ble_eq_true rfl, Nat.le_of_ble_eq_true rfl⟩) kx228 rfl rfl rfl (Nat.le_of_ble_eq_true rfl) dL_refusesAny_411 (fun r411 m411 => ?_)
                                                refine hr_iconst (v := -1) hC dL_refusesAny_414 (by decide) ?_
                                                refine hr_icmp_ne (tgt := 521) hC dL_refusesAny_415 (by decide) (fun _ => ?_) (fun _ => ?_)
                                                · refine hr_aload_n hC dL_refusesAny_418 rfl 3 rfl ?_
                                                  refine hr_iload hC dL_refusesAny_419 0 rfl ?_
                                                  refine hr_iconst (v := 0) hC dL_refusesAny_421 (by decide) ?_
                                                  refine hr_iconst (v := 0) hC dL_refusesAny_422 (by decide) ?_
                                                  refine hr_iconst (v := 0) hC dL_refusesAny_423 (by decide) ?_
                                                  refine hr_callVi (As := [.int r38, .int (0 : Int32), .int (0 : Int32), .int (0 : Int32)]) (k := 228) hC rfl (tX5_bill (t1 := t1) (t2 := t2) hI n r38 (0 : Int32) (0 : Int32) (0 : Int32) m411) (cwV 4 hC.1.2.2.2.2 gL_refusesAny_X5_bill rfl rfl rfl (by decide +kernel) ⟨Nat.le_of_ble_eq_true rfl, Nat.le_of_ble_eq_true rfl⟩) kx228 rfl rfl rfl (Nat.le_of_ble_eq_true rfl) dL_refusesAny_424 (fun r424 m424 => ?_)
                                                  refine hr_iconst (v := -1) hC dL_refusesAny_427 (by decide) ?_
                                                  refine hr_icmp_ne (tgt := 521) hC dL_refusesAny_428 (by decide) (fun _ => ?_) (fun _ => ?_)
                                                  · refine hr_aload_n hC dL_refusesAny_431 rfl 3 rfl ?_
                                                    refine hr_iload hC dL_refusesAny_432 0 rfl ?_
                                                    refine hr_iconst (v := 0) hC dL_refusesAny_434 (by decide) ?_
                                                    refine hr_callVi (As := [.int r38, .int (0 : Int32)]) (k := 228) hC rfl (tX5_units (t1 := t1) (t2 := t2) hI n r38 (0 : Int32) m424) (cwV 2 hC.1.2.2.2.2 gL_refusesAny_X5_units rfl rfl rfl (by decide +kernel) ⟨Nat.le_of_ble_eq_true rfl, Nat.le_of_ble_eq_true rfl⟩) kx228 rfl rfl rfl (Nat.le_of_ble_eq_true rfl) dL_refusesAny_435 (fun r435 m435 => ?_)
                                                    refine hr_iconst (v := -1) hC dL_refusesAny_438 (by decide) ?_
                                                    refine hr_icmp_ne (tgt := 521) hC dL_refusesAny_439 (by decide) (fun _ => ?_) (fun _ => ?_)
                                                    · refine hr_aload_n hC dL_refusesAny_442 rfl 3 rfl ?_
                                                      refine hr_iconst (v := -1) hC dL_refusesAny_443 (by decide) ?_
                                                      refine hr_callVi (As := [.int (-1 : Int32)]) (k := 228) hC rfl (tX5_greatest (t1 := t1) (t2 := t2) hI n (-1 : Int32) m435) (cwV 1 hC.1.2.2.2.2 gL_refusesAny_X5_greatest rfl rfl rfl (by decide +kernel) ⟨Nat.le_of_ble_eq_true rfl, Nat.le_of_ble_eq_true rfl⟩) kx228 rfl rfl rfl (Nat.le_of_ble_eq_true rfl) dL_refusesAny_444 (fun r444 m444 => ?_)
                                                      refine hr_bipush (v := -2) hC dL_refusesAny_447 (by decide) ?_
                                                      refine hr_icmp_ne (tgt := 521) hC dL_refusesAny_449 (by decide) (fun _ => ?_) (fun _ => ?_)
                                                      · refine hr_aload_n hC dL_refusesAny_452 rfl 3 rfl ?_
                                                        refine hr_bipush (v := 8) hC dL_refusesAny_453 (by decide) ?_
                                                        refine hr_callVi (As := [.int (8 : Int32)]) (k := 228) hC rfl (tX5_greatest (t1 := t1) (t2 := t2) hI n (8 : Int32) m444) (cwV 1 hC.1.2.2.2.2 gL_refusesAny_X5_greatest rfl rfl rfl (by decide +kernel) ⟨Nat.le_of_ble_eq_true rfl, Nat.le_of_ble_eq_true rfl⟩) kx228 rfl rfl rfl (Nat.le_of_ble_eq_true rfl) dL_refusesAny_455 (fun r455 m455 => ?_)
                                                        refine hr_bipush (v := -5) hC dL_refusesAny_458 (by decide) ?_
                                                        refine hr_icmp_ne (tgt := 521) hC dL_refusesAny_460 (by decide) (fun _ => ?_) (fun _ => ?_)
                                                        · refine hr_aload_n hC dL_refusesAny_463 rfl 3 rfl ?_
                                                          refine hr_iload_n hC dL_refusesAny_464 rfl 2 rfl ?_
                                                          refine hr_iconst (v := -1) hC dL_refusesAny_465 (by decide) ?_
                                                          refine hr_callVi (As := [.int r10, .int (-1 : Int32)]) (k := 228) hC rfl (tX5_billIf (t1 := t1) (t2 := t2) hI n r10 (-1 : Int32) m455) (cwV 2 hC.1.2.2.2.2 gL_refusesAny_X5_billIf rfl rfl rfl (by decide +kernel) ⟨Nat.le_of_ble_eq_true rfl, Nat.le_of_ble_eq_true rfl⟩) kx228 rfl rfl rfl (Nat.le_of_ble_eq_true rfl) dL_refusesAny_466 (fun r466 m466 => ?_)
                                                          refine hr_iconst (v := -1) hC dL_refusesAny_469 (by decide) ?_
                                                          refine hr_icmp_ne (tgt := 521) hC dL_refusesAny_470 (by decide) (fun _ => ?_) (fun _ => ?_)
                                                          · refine hr_aload_n hC dL_refusesAny_473 rfl 3 rfl ?_
                                                            refine hr_iconst (v := 0) hC dL_refusesAny_474 (by decide) ?_
                                                            refine hr_iload_n hC dL_refusesAny_475 rfl 4 rfl ?_
                                                            refine hr_if_neT (tgt := 483) hC dL_refusesAny_476 (by decide) (by decide) ?_
                                                            refine hr_bipush (v := 101) hC dL_refusesAny_483 (by decide) ?_
                                                            refine hr_callVi (As := [.int (0 : Int32), .int (101 : Int32)]) (k := 228) hC rfl (tX5_billIf (t1 := t1) (t2 := t2) hI n (0 : Int32) (101 : Int32) m466) (cwV 2 hC.1.2.2.2.2 gL_refusesAny_X5_billIf rfl rfl rfl (by decide +kernel) ⟨Nat.le_of_ble_eq_true rfl, Nat.le_of_ble_eq_true rfl⟩) kx228 rfl rfl rfl (Nat.le_of_ble_eq_true rfl) dL_refusesAny_485 (fun r485 m485 => ?_)
                                                            refine hr_bipush (v := -2) hC dL_refusesAny_488 (by decide) ?_
                                                            refine hr_icmp_ne (tgt := 521) hC dL_refusesAny_490 (by decide) (fun _ => ?_) (fun _ => ?_)
                                                            · refine hr_aload_n hC dL_refusesAny_493 rfl 3 rfl ?_
                                                              refine hr_iload_n hC dL_refusesAny_494 rfl 2 rfl ?_
                                                              refine hr_callVi (As := [.int r10]) (k := 228) hC rfl (tX5_bestShare (t1 := t1) (t2 := t2) hI n r10 m485) (cwV 1 hC.1.2.2.2.2 gL_refusesAny_X5_bestShare rfl rfl rfl (by decide +kernel) ⟨Nat.le_of_ble_eq_true rfl, Nat.le_of_ble_eq_true rfl⟩) kx228 rfl rfl rfl (Nat.le_of_ble_eq_true rfl) dL_refusesAny_495 (fun r495 m495 => ?_)
                                                              refine hr_iconst (v := -1) hC dL_refusesAny_498 (by decide) ?_
                                                              refine hr_icmp_ne (tgt := 521) hC dL_refusesAny_499 (by decide) (fun _ => ?_) (fun _ => ?_)
                                                              · refine hr_aload_n hC dL_refusesAny_502 rfl 3 rfl ?_
                                                                refine hr_iload_n hC dL_refusesAny_503 rfl 4 rfl ?_
                                                                refine hr_if_neT (tgt := 511) hC dL_refusesAny_504 (by decide) (by decide) ?_
                                                                refine hr_bipush (v := 15) hC dL_refusesAny_511 (by decide) ?_
                                                                refine hr_callVi (As := [.int (15 : Int32)]) (k := 228) hC rfl (tX5_count (t1 := t1) (t2 := t2) hI n (15 : Int32) m495) (cwV 1 hC.1.2.2.2.2 gL_refusesAny_X5_count rfl rfl rfl (by decide +kernel) ⟨Nat.le_of_ble_eq_true rfl, Nat.le_of_ble_eq_true rfl⟩) kx228 rfl rfl rfl (Nat.le_of_ble_eq_true rfl) dL_refusesAny_513 (fun r513 m513 => ?_)
                                                                refine hr_bipush (v := -2) hC dL_refusesAny_516 (by decide) ?_
                                                                refine hr_icmp_eq (tgt := 523) hC dL_refusesAny_518 (by decide) (fun _ => ?_) (fun _ => ?_)
                                                                · refine hr_aload_n hC dL_refusesAny_523 rfl 3 rfl ?_
                                                                  refine hr_iconst (v := 0) hC dL_refusesAny_524 (by decide) ?_
                                                                  refine hr_callVi (As := [.int (0 : Int32)]) (k := 228) hC rfl (tX5_count (t1 := t1) (t2 := t2) hI n (0 : Int32) m513) (cwV 1 hC.1.2.2.2.2 gL_refusesAny_X5_count rfl rfl rfl (by decide +kernel) ⟨Nat.le_of_ble_eq_true rfl, Nat.le_of_ble_eq_true rfl⟩) kx228 rfl rfl rfl (Nat.le_of_ble_eq_true rfl) dL_refusesAny_525 (fun r525 m525 => ?_)
                                                                  refine hr_if_eq (tgt := 610) hC dL_refusesAny_528 (by decide) (fun _ => ?_) (fun _ => ?_)
                                                                  · refine hr_iconst (v := 1) hC dL_refusesAny_610 (by decide) ?_
                                                                    refine hr_goto (tgt := 615) hC dL_refusesAny_611 (by decide) ?_
                                                                    exact hr_iretz hC hr dL_refusesAny_615 rfl
                                                                  · refine hr_aload_n hC dL_refusesAny_531 rfl 3 rfl ?_
                                                                    refine hr_iconst (v := 0) hC dL_refusesAny_532 (by decide) ?_
                                                                    refine hr_iload_n hC dL_refusesAny_533 rfl 1 rfl ?_
                                                                    refine hr_iconst (v := 5) hC dL_refusesAny_534 (by decide) ?_
                                                                    refine hr_callVi (As := [.int (0 : Int32), .int r24, .int (5 : Int32)]) (k := 228) hC rfl (tX5_correct (t1 := t1) (t2 := t2) hI n (0 : Int32) r24 (5 : Int32) m525) (cwV 3 hC.1.2.2.2.2 gL_refusesAny_X5_correct rfl rfl rfl (by decide +kernel) ⟨Nat.le_of_ble_eq_true rfl, Nat.le_of_ble_eq_true rfl⟩) kx228 rfl rfl rfl (Nat.le_of_ble_eq_true rfl) dL_refusesAny_535 (fun r535 m535 => ?_)
                                                                    refine hr_iconst (v := -1) hC dL_refusesAny_538 (by decide) ?_
                                                                    refine hr_icmp_ne (tgt := 614) hC dL_refusesAny_539 (by decide) (fun _ => ?_) (fun _ => ?_)
                                                                    · refine hr_aload_n hC dL_refusesAny_542 rfl 3 rfl ?_
                                                                      refine hr_iconst (v := 0) hC dL_refusesAny_543 (by decide) ?_
                                                                      refine hr_iconst (v := 0) hC dL_refusesAny_544 (by decide) ?_
                                                                      refine hr_iload_n hC dL_refusesAny_545 rfl 4 rfl ?_
                                                                      refine hr_if_neT (tgt := 553) hC dL_refusesAny_546 (by decide) (by decide) ?_
                                                                      refine hr_ldc (v := 199981) hC dL_refusesAny_553 hmL_refusesAny1_74 ?_
                                                                      refine hr_callVi (As := [.int (0 : Int32), .int (0 : Int32), .int (199981 : Int32)]) (k := 228) hC rfl (tX5_correct (t1 := t1) (t2 := t2) hI n (0 : Int32) (0 : Int32) (199981 : Int32) m535) (cwV 3 hC.1.2.2.2.2 gL_refusesAny_X5_correct rfl rfl rfl (by decide +kernel) ⟨Nat.le_of_ble_eq_true rfl, Nat.le_of_ble_eq_true rfl⟩) kx228 rfl rfl rfl (Nat.le_of_ble_eq_true rfl) dL_refusesAny_555 (fun r555 m555 => ?_)
                                                                      refine hr_bipush (v := -2) hC dL_refusesAny_558 (by decide) ?_
                                                                      refine hr_icmp_ne (tgt := 614) hC dL_refusesAny_560 (by decide) (fun _ => ?_) (fun _ => ?_)
                                                                      · refine hr_aload_n hC dL_refusesAny_563 rfl 3 rfl ?_
                                                                        refine hr_iconst (v := 0) hC dL_refusesAny_564 (by decide) ?_
                                                                        refine hr_iconst (v := 0) hC dL_refusesAny_565 (by decide) ?_
                                                                        refine hr_aload_n hC dL_refusesAny_566 rfl 3 rfl ?_
                                                                        refine hr_iconst (v := 0) hC dL_refusesAny_567 (by decide) ?_
                                                                        refine hr_iconst (v := 0) hC dL_refusesAny_568 (by decide) ?_
                                                                        refine hr_callVi (As := [.int (0 : Int32), .int (0 : Int32)]) (k := 228) hC rfl (tX5_units (t1 := t1) (t2 := t2) hI n (0 : Int32) (0 : Int32) m555) (cwV 2 hC.1.2.2.2.2 gL_refusesAny_X5_units rfl rfl rfl (by decide +kernel) ⟨Nat.le_of_ble_eq_true rfl, Nat.le_of_ble_eq_true rfl⟩) kx228 rfl rfl rfl (Nat.le_of_ble_eq_true rfl) dL_refusesAny_569 (fun r569 m569 => ?_)
                                                                        refine hr_callVi (As := [.int (0 : Int32), .int (0 : Int32), .int r569]) (k := 228) hC rfl (tX5_correct (t1 := t1) (t2 := t2) hI n (0 : Int32) (0 : Int32) r569 m569) (cwV 3 hC.1.2.2.2.2 gL_refusesAny_X5_correct rfl rfl rfl (by decide +kernel) ⟨Nat.le_of_ble_eq_true rfl, Nat.le_of_ble_eq_true rfl⟩) kx228 rfl rfl rfl (Nat.le_of_ble_eq_true rfl) dL_refusesAny_572 (fun r572 m572 => ?_)
                                                                        refine hr_bipush (v := -5) hC dL_refusesAny_575 (by decide) ?_
                                                                        refine hr_icmp_ne (tgt := 614) hC dL_refusesAny_577 (by decide) (fun _ => ?_) (fun _ => ?_)
                                                                        · refine hr_aload_n hC dL_refusesAny_580 rfl 3 rfl ?_
                                                                          refine hr_iconst (v := 0) hC dL_refusesAny_581 (by decide) ?_
                                                                          refine hr_iload_n hC dL_refusesAny_582 rfl 2 rfl ?_
                                                                          refine hr_iconst (v := 0) hC dL_refusesAny_583 (by decide) ?_
                                                                          refine hr_iconst (v := 1) hC dL_refusesAny_584 (by decide) ?_
                                                                          refine hr_callVi (As := [.int (0 : Int32), .int r10, .int (0 : Int32), .int (1 : Int32)]) (k := 228) hC rfl (tX5_bill (t1 := t1) (t2 := t2) hI n (0 : Int32) r10 (0 : Int32) (1 : Int32) m572) (cwV 4 hC.1.2.2.2.2 gL_refusesAny_X5_bill rfl rfl rfl (by decide +kernel) ⟨Nat.le_of_ble_eq_true rfl, Nat.le_of_ble_eq_true rfl⟩) kx228 rfl rfl rfl (Nat.le_of_ble_eq_true rfl) dL_refusesAny_585 (fun r585 m585 => ?_)
                                                                          refine hr_iconst (v := -1) hC dL_refusesAny_588 (by decide) ?_
                                                                          refine hr_icmp_ne (tgt := 614) hC dL_refusesAny_589 (by decide) (fun _ => ?_) (fun _ => ?_)
                                                                          · refine hr_aload_n hC dL_refusesAny_592 rfl 3 rfl ?_
                                                                            refine hr_iconst (v := 0) hC dL_refusesAny_593 (by decide) ?_
                                                                            refine hr_iload_n hC dL_refusesAny_594 rfl 1 rfl ?_
                                                                            refine hr_callVi (As := [.int (0 : Int32), .int r24]) (k := 228) hC rfl (tX5_units (t1 := t1) (t2 := t2) hI n (0 : Int32) r24 m585) (cwV 2 hC.1.2.2.2.2 gL_refusesAny_X5_units rfl rfl rfl (by decide +kernel) ⟨Nat.le_of_ble_eq_true rfl, Nat.le_of_ble_eq_true rfl⟩) kx228 rfl rfl rfl (Nat.le_of_ble_eq_true rfl) dL_refusesAny_595 (fun r595 m595 => ?_)
                                                                            refine hr_iconst (v := -1) hC dL_refusesAny_598 (by decide) ?_
                                                                            refine hr_icmp_ne (tgt := 614) hC dL_refusesAny_599 (by decide) (fun _ => ?_) (fun _ => ?_)
                                                                            · refine hr_aload_n hC dL_refusesAny_602 rfl 3 rfl ?_
                                                                              refine hr_iconst (v := 5) hC dL_refusesAny_603 (by decide) ?_
                                                                              refine hr_callVi (As := [.int (5 : Int32)]) (k := 228) hC rfl (tX5_addFlat (t1 := t1) (t2 := t2) hI n (5 : Int32) m595) (cwV 1 hC.1.2.2.2.2 gL_refusesAny_X5_addFlat rfl rfl rfl (by decide +kernel) ⟨Nat.le_of_ble_eq_true rfl, Nat.le_of_ble_eq_true rfl⟩) kx228 rfl rfl rfl (Nat.le_of_ble_eq_true rfl) dL_refusesAny_604 (fun r604 m604 => ?_)
                                                                              refine hr_if_ge (tgt := 614) hC dL_refusesAny_607 (by decide) (fun _ => ?_) (fun _ => ?_)
                                                                              · refine hr_iconst (v := 0) hC dL_refusesAny_614 (by decide) ?_
                                                                                exact hr_iretz hC hr dL_refusesAny_615 rfl
                                                                              · refine hr_iconst (v := 1) hC dL_refusesAny_610 (by decide) ?_
                                                                                refine hr_goto (tgt := 615) hC dL_refusesAny_611 (by decide) ?_
                                                                                exact hr_iretz hC hr dL_refusesAny_615 rfl
                                                                            · refine hr_iconst (v := 0) hC dL_refusesAny_614 (by decide) ?_
                                                                              exact hr_iretz hC hr dL_refusesAny_615 rfl
                                                                          · refine hr_iconst (v := 0) hC dL_refusesAny_614 (by decide) ?_
                                                                            exact hr_iretz hC hr dL_refusesAny_615 rfl
                                                                        · refine hr_iconst (v := 0) hC dL_refusesAny_614 (by decide) ?_
                                                                          exact hr_iretz hC hr dL_refusesAny_615 rfl
                                                                      · refine hr_iconst (v := 0) hC dL_refusesAny_614 (by decide) ?_
                                                                        exact hr_iretz hC hr dL_refusesAny_615 rfl
                                                                    · refine hr_iconst (v := 0) hC dL_refusesAny_614 (by decide) ?_
                                                                      exact hr_iretz hC hr dL_refusesAny_615 rfl
                                                                · refine hr_iconst (v := 0) hC dL_refusesAny_521 (by decide) ?_
                                                                  exact hr_iretz hC hr dL_refusesAny_522 rfl
                                                              · refine hr_iconst (v := 0) hC dL_refusesAny_521 (by decide) ?_
                                                                exact hr_iretz hC hr dL_refusesAny_522 rfl
                                                            · refine hr_iconst (v := 0) hC dL_refusesAny_521 (by decide) ?_
                                                              exact hr_iretz hC hr dL_refusesAny_522 rfl
                                                          · refine hr_iconst (v := 0) hC dL_refusesAny_521 (by decide) ?_
                                                            exact hr_iretz hC hr dL_refusesAny_522 rfl
                                                        · refine hr_iconst (v := 0) hC dL_refusesAny_521 (by decide) ?_
                                                          exact hr_iretz hC hr dL_refusesAny_522 rfl
                                                      · refine hr_iconst (v := 0) hC dL_refusesAny_521 (by decide) ?_
                                                        exact hr_iretz hC hr dL_refusesAny_522 rfl
                                                    · refine hr_iconst (v := 0) hC dL_refusesAny_521 (by decide) ?_
                                                      exact hr_iretz hC hr dL_refusesAny_522 rfl
                                                  · refine hr_iconst (v := 0) hC dL_refusesAny_521 (by decide) ?_
                                                    exact hr_iretz hC hr dL_refusesAny_522 rfl
                                                · refine hr_iconst (v := 0) hC dL_refusesAny_521 (by decide) ?_
                                                  exact hr_iretz hC hr dL_refusesAny_522 rfl
                                              · refine hr_iconst (v := 0) hC dL_refusesAny_521 (by decide) ?_
                                                exact hr_iretz hC hr dL_refusesAny_522 rfl
                                            · refine hr_iconst (v := 0) hC dL_refusesAny_521 (by decide) ?_
                                              exact hr_iretz hC hr dL_refusesAny_522 rfl
                                          · refine hr_iconst (v := 0) hC dL_refusesAny_521 (by decide) ?_
                                            exact hr_iretz hC hr dL_refusesAny_522 rfl
                                        · refine hr_iconst (v := 0) hC dL_refusesAny_521 (by decide) ?_
                                          exact hr_iretz hC hr dL_refusesAny_522 rfl
                                      · refine hr_iconst (v := 0) hC dL_refusesAny_521 (by decide) ?_
                                        exact hr_iretz hC hr dL_refusesAny_522 rfl
                                    · refine hr_iconst (v := 0) hC dL_refusesAny_521 (by decide) ?_
                                      exact hr_iretz hC hr dL_refusesAny_522 rfl
                                  · refine hr_iconst (v := 0) hC dL_refusesAny_521 (by decide) ?_
                                    exact hr_iretz hC hr dL_refusesAny_522 rfl
                                · refine hr_iconst (v := 0) hC dL_refusesAny_521 (by decide) ?_
                                  exact hr_iretz hC hr dL_refusesAny_522 rfl
                              · refine hr_iconst (v := 0) hC dL_refusesAny_521 (by decide) ?_
                                exact hr_iretz hC hr dL_refusesAny_522 rfl
                            · refine hr_iconst (v := 0) hC dL_refusesAny_271 (by decide) ?_
                              exact hr_iretz hC hr dL_refusesAny_272 rfl
                          · refine hr_iconst (v := 0) hC dL_refusesAny_262 (by decide) ?_
                            refine hr_callVi (As := [.int (0 : Int32), .int (0 : Int32)]) (k := 228) hC rfl (tX5_mark (t1 := t1) (t2 := t2) hI n (0 : Int32) (0 : Int32) m251) (cwV 2 hC.1.2.2.2.2 gL_refusesAny_X5_mark rfl rfl rfl (by decide +kernel) ⟨Nat.le_of_ble_eq_true rfl, Nat.le_of_ble_eq_true rfl⟩) kx228 rfl rfl rfl (Nat.le_of_ble_eq_true rfl) dL_refusesAny_263 (fun r263 m263 => ?_)
                            refine hr_bipush (v := -5) hC dL_refusesAny_266 (by decide) ?_
                            refine hr_icmp_eq (tgt := 273) hC dL_refusesAny_268 (by decide) (fun _ => ?_) (fun _ => ?_)
                            · refine hr_aload_n hC dL_refusesAny_273 rfl 3 rfl ?_
                              refine hr_iload_n hC dL_refusesAny_274 rfl 2 rfl ?_
                              refine hr_iconst (v := 0) hC dL_refusesAny_275 (by decide) ?_
                              refine hr_callVi (As := [.int r10, .int (0 : Int32)]) (k := 228) hC rfl (tX5_move (t1 := t1) (t2 := t2) hI n r10 (0 : Int32) m263) (cwV 2 hC.1.2.2.2.2 gL_refusesAny_X5_move rfl rfl rfl (by decide +kernel) ⟨Nat.le_of_ble_eq_true rfl, Nat.le_of_ble_eq_true rfl⟩) kx228 rfl rfl rfl (Nat.le_of_ble_eq_true rfl) dL_refusesAny_276 (fun r276 m276 => ?_)
                              refine hr_iconst (v := -1) hC dL_refusesAny_279 (by decide) ?_
                              refine hr_icmp_ne (tgt := 521) hC dL_refusesAny_280 (by decide) (fun _ => ?_) (fun _ => ?_)
                              · refine hr_aload_n hC dL_refusesAny_283 rfl 3 rfl ?_
                                refine hr_iconst (v := 0) hC dL_refusesAny_284 (by decide) ?_
                                refine hr_iload_n hC dL_refusesAny_285 rfl 4 rfl ?_
                                refine hr_if_neT (tgt := 293) hC dL_refusesAny_286 (by decide) (by decide) ?_
                                refine hr_bipush (v := 12) hC dL_refusesAny_293 (by decide) ?_
                                refine hr_callVi (As := [.int (0 : Int32), .int (12 : Int32)]) (k := 228) hC rfl (tX5_move (t1 := t1) (t2 := t2) hI n (0 : Int32) (12 : Int32) m276) (cwV 2 hC.1.2.2.2.2 gL_refusesAny_X5_move rfl rfl rfl (by decide +kernel) ⟨Nat.le_of_ble_eq_true rfl, Nat.le_of_ble_eq_true rfl⟩) kx228 rfl rfl rfl (Nat.le_of_ble_eq_true rfl) dL_refusesAny_295 (fun r295 m295 => ?_)
                                refine hr_bipush (v := -2) hC dL_refusesAny_298 (by decide) ?_
                                refine hr_icmp_ne (tgt := 521) hC dL_refusesAny_300 (by decide) (fun _ => ?_) (fun _ => ?_)
                                · refine hr_aload_n hC dL_refusesAny_303 rfl 3 rfl ?_
                                  refine hr_iload_n hC dL_refusesAny_304 rfl 2 rfl ?_
                                  refine hr_iconst (v := -1) hC dL_refusesAny_305 (by decide) ?_
                                  refine hr_callVi (As := [.int r10, .int (-1 : Int32)]) (k := 228) hC rfl (tX5_between (t1 := t1) (t2 := t2) hI n r10 (-1 : Int32) m295) (cwV 2 hC.1.2.2.2.2 gL_refusesAny_X5_between rfl rfl rfl (by decide +kernel) ⟨Nat.le_of_ble_eq_true rfl, Nat.le_of_ble_eq_true rfl⟩) kx228 rfl rfl rfl (Nat.le_of_ble_eq_true rfl) dL_refusesAny_306 (fun r306 m306 => ?_)
                                  refine hr_iconst (v := -1) hC dL_refusesAny_309 (by decide) ?_
                                  refine hr_icmp_ne (tgt := 521) hC dL_refusesAny_310 (by decide) (fun _ => ?_) (fun _ => ?_)
                                  · refine hr_aload_n hC dL_refusesAny_313 rfl 3 rfl ?_
                                    refine hr_iconst (v := 0) hC dL_refusesAny_314 (by decide) ?_
                                    refine hr_iload_n hC dL_refusesAny_315 rfl 4 rfl ?_
                                    refine hr_if_neT (tgt := 323) hC dL_refusesAny_316 (by decide) (by decide) ?_
                                    refine hr_sipush (v := 1001) hC dL_refusesAny_323 (by decide) ?_
                                    refine hr_callVi (As := [.int (0 : Int32), .int (1001 : Int32)]) (k := 228) hC rfl (tX5_between (t1 := t1) (t2 := t2) hI n (0 : Int32) (1001 : Int32) m306) (cwV 2 hC.1.2.2.2.2 gL_refusesAny_X5_between rfl rfl rfl (by decide +kernel) ⟨Nat.le_of_ble_eq_true rfl, Nat.le_of_ble_eq_true rfl⟩) kx228 rfl rfl rfl (Nat.le_of_ble_eq_true rfl) dL_refusesAny_326 (fun r326 m326 => ?_)
                                    refine hr_bipush (v := -2) hC dL_refusesAny_329 (by decide) ?_
                                    refine hr_icmp_ne (tgt := 521) hC dL_refusesAny_331 (by decide) (fun _ => ?_) (fun _ => ?_)
                                    · refine hr_aload_n hC dL_refusesAny_334 rfl 3 rfl ?_
                                      refine hr_iload hC dL_refusesAny_335 0 rfl ?_
                                      refine hr_iconst (v := 0) hC dL_refusesAny_337 (by decide) ?_
                                      refine hr_iconst (v := -1) hC dL_refusesAny_338 (by decide) ?_
                                      refine hr_callVi (As := [.int r38, .int (0 : Int32), .int (-1 : Int32)]) (k := 228) hC rfl (tX5_correct (t1 := t1) (t2 := t2) hI n r38 (0 : Int32) (-1 : Int32) m326) (cwV 3 hC.1.2.2.2.2 gL_refusesAny_X5_correct rfl rfl rfl (by decide +kernel) ⟨Nat.le_of_ble_eq_true rfl, Nat.le_of_ble_eq_true rfl⟩) kx228 rfl rfl rfl (Nat.le_of_ble_eq_true rfl) dL_refusesAny_339 (fun r339 m339 => ?_)
                                      refine hr_iconst (v := -1) hC dL_refusesAny_342 (by decide) ?_
                                      refine hr_icmp_ne (tgt := 521) hC dL_refusesAny_343 (by decide) (fun _ => ?_) (fun _ => ?_)
                                      · refine hr_aload_n hC dL_refusesAny_346 rfl 3 rfl ?_
                                        refine hr_iload_n hC dL_refusesAny_347 rfl 2 rfl ?_
                                        refine hr_bipush (v := 99) hC dL_refusesAny_348 (by decide) ?_
                                        refine hr_callVi (As := [.int r10, .int (99 : Int32)]) (k := 228) hC rfl (tX5_flat (t1 := t1) (t2 := t2) hI n r10 (99 : Int32) m339) (cwV 2 hC.1.2.2.2.2 gL_refusesAny_X5_flat rfl rfl rfl (by decide +kernel) ⟨Nat.le_of_ble_eq_true rfl, Nat.le_of_ble_eq_true rfl⟩) kx228 rfl rfl rfl (Nat.le_of_ble_eq_true rfl) dL_refusesAny_350 (fun r350 m350 => ?_)
                                        refine hr_iconst (v := -1) hC dL_refusesAny_353 (by decide) ?_
                                        refine hr_icmp_ne (tgt := 521) hC dL_refusesAny_354 (by decide) (fun _ => ?_) (fun _ => ?_)
                                        · refine hr_aload_n hC dL_refusesAny_357 rfl 3 rfl ?_
                                          refine hr_iconst (v := 0) hC dL_refusesAny_358 (by decide) ?_
                                          refine hr_iload_n hC dL_refusesAny_359 rfl 4 rfl ?_
                                          refine hr_if_neT (tgt := 367) hC dL_refusesAny_360 (by decide) (by decide) ?_
                                          refine hr_bipush (v := 8) hC dL_refusesAny_367 (by decide) ?_
                                          refine hr_callVi (As := [.int (0 : Int32), .int (8 : Int32)]) (k := 228) hC rfl (tX5_flat (t1 := t1) (t2 := t2) hI n (0 : Int32) (8 : Int32) m350) (cwV 2 hC.1.2.2.2.2 gL_refusesAny_X5_flat rfl rfl rfl (by decide +kernel) ⟨Nat.le_of_ble_eq_true rfl, Nat.le_of_ble_eq_true rfl⟩) kx228 rfl rfl rfl (Nat.le_of_ble_eq_true rfl) dL_refusesAny_369 (fun r369 m369 => ?_)
                                          refine hr_bipush (v := -2) hC dL_refusesAny_372 (by decide) ?_
                                          refine hr_icmp_ne (tgt := 521) hC dL_refusesAny_374 (by decide) (fun _ => ?_) (fun _ => ?_)
                                          · refine hr_aload_n hC dL_refusesAny_377 rfl 3 rfl ?_
                                            refine hr_iload_n hC dL_refusesAny_378 rfl 1 rfl ?_
                                            refine hr_bipush (v := 99) hC dL_refusesAny_379 (by decide) ?_
                                            refine hr_callVi (As := [.int r24, .int (99 : Int32)]) (k := 228) hC rfl (tX5_device (t1 := t1) (t2 := t2) hI n r24 (99 : Int32) m369) (cwV 2 hC.1.2.2.2.2 gL_refusesAny_X5_device rfl rfl rfl (by decide +kernel) ⟨Nat.le_of_ble_eq_true rfl, Nat.le_of_ble_eq_true rfl⟩) kx228 rfl rfl rfl (Nat.le_of_ble_eq_true rfl) dL_refusesAny_381 (fun r381 m381 => ?_)
                                            refine hr_iconst (v := -1) hC dL_refusesAny_384 (by decide) ?_
                                            refine hr_icmp_ne (tgt := 521) hC dL_refusesAny_385 (by decide) (fun _ => ?_) (fun _ => ?_)
                                            · refine hr_aload_n hC dL_refusesAny_388 rfl 3 rfl ?_
                                              refine hr_iconst (v := 0) hC dL_refusesAny_389 (by decide) ?_
                                              refine hr_iload_n hC dL_refusesAny_390 rfl 4 rfl ?_
                                              refine hr_if_neT (tgt := 398) hC dL_refusesAny_391 (by decide) (by decide) ?_
                                              refine hr_bipush (v := 6) hC dL_refusesAny_398 (by decide) ?_
                                              refine hr_callVi (As := [.int (0 : Int32), .int (6 : Int32)]) (k := 228) hC rfl (tX5_device (t1 := t1) (t2 := t2) hI n (0 : Int32) (6 : Int32) m381) (cwV 2 hC.1.2.2.2.2 gL_refusesAny_X5_device rfl rfl rfl (by decide +kernel) ⟨Nat.le_of_ble_eq_true rfl, Nat.le_of_ble_eq_true rfl⟩) kx228 rfl rfl rfl (Nat.le_of_ble_eq_true rfl) dL_refusesAny_400 (fun r400 m400 => ?_)
                                              refine hr_bipush (v := -2) hC dL_refusesAny_403 (by decide) ?_
                                              refine hr_icmp_ne (tgt := 521) hC dL_refusesAny_405 (by decide) (fun _ => ?_) (fun _ => ?_)
                                              · refine hr_aload_n hC dL_refusesAny_408 rfl 3 rfl ?_
                                                refine hr_iload_n hC dL_refusesAny_409 rfl 2 rfl ?_
                                                refine hr_iconst (v := 0) hC dL_refusesAny_410 (by decide) ?_
                                                refine hr_callVi (As := [.int r10, .int (0 : Int32)]) (k := 228) hC rfl (tX5_draft (t1 := t1) (t2 := t2) hI n r10 (0 : Int32) m400) (cwV 2 hC.1.2.2.2.2 gL_refusesAny_X5_draft rfl rfl rfl (by decide +kernel) ⟨Nat.le_of_ble_eq_true rfl, Nat.le_of_ble_eq_true rfl⟩) kx228 rfl rfl rfl (Nat.le_of_ble_eq_true rfl) dL_refusesAny_411 (fun r411 m411 => ?_)
                                                refine hr_iconst (v := -1) hC dL_refusesAny_414 (by decide) ?_
                                                refine hr_icmp_ne (tgt := 521) hC dL_refusesAny_415 (by decide) (fun _ => ?_) (fun _ => ?_)
                                                · refine hr_aload_n hC dL_refusesAny_418 rfl 3 rfl ?_
                                                  refine hr_iload hC dL_refusesAny_419 0 rfl ?_
                                                  refine hr_iconst (v := 0) hC dL_refusesAny_421 (by decide) ?_
                                                  refine hr_iconst (v := 0) hC dL_refusesAny_422 (by decide) ?_
                                                  refine hr_iconst (v := 0) hC dL_refusesAny_423 (by decide) ?_
                                                  refine hr_callVi (As := [.int r38, .int (0 : Int32), .int (0 : Int32), .int (0 : Int32)]) (k := 228) hC rfl (tX5_bill (t1 := t1) (t2 := t2) hI n r38 (0 : Int32) (0 : Int32) (0 : Int32) m411) (cwV 4 hC.1.2.2.2.2 gL_refusesAny_X5_bill rfl rfl rfl (by decide +kernel) ⟨Nat.le_of_ble_eq_true rfl, Nat.le_of_ble_eq_true rfl⟩) kx228 rfl rfl rfl (Nat.le_of_ble_eq_true rfl) dL_refusesAny_424 (fun r424 m424 => ?_)
                                                  refine hr_iconst (v := -1) hC dL_refusesAny_427 (by decide) ?_
                                                  refine hr_icmp_ne (tgt := 521) hC dL_refusesAny_428 (by decide) (fun _ => ?_) (fun _ => ?_)
                                                  · refine hr_aload_n hC dL_refusesAny_431 rfl 3 rfl ?_
                                                    refine hr_iload hC dL_refusesAny_432 0 rfl ?_
                                                    refine hr_iconst (v := 0) hC dL_refusesAny_434 (by decide) ?_
                                                    refine hr_callVi (As := [.int r38, .int (0 : Int32)]) (k := 228) hC rfl (tX5_units (t1 := t1) (t2 := t2) hI n r38 (0 : Int32) m424) (cwV 2 hC.1.2.2.2.2 gL_refusesAny_X5_units rfl rfl rfl (by decide +kernel) ⟨Nat.le_of_ble_eq_true rfl, Nat.le_of_ble_eq_true rfl⟩) kx228 rfl rfl rfl (Nat.le_of_ble_eq_true rfl) dL_refusesAny_435 (fun r435 m435 => ?_)
                                                    refine hr_iconst (v := -1) hC dL_refusesAny_438 (by decide) ?_
                                                    refine hr_icmp_ne (tgt := 521) hC dL_refusesAny_439 (by decide) (fun _ => ?_) (fun _ => ?_)
                                                    · refine hr_aload_n hC dL_refusesAny_442 rfl 3 rfl ?_
                                                      refine hr_iconst (v := -1) hC dL_refusesAny_443 (by decide) ?_
                                                      refine hr_callVi (As := [.int (-1 : Int32)]) (k := 228) hC rfl (tX5_greatest (t1 := t1) (t2 := t2) hI n (-1 : Int32) m435) (cwV 1 hC.1.2.2.2.2 gL_refusesAny_X5_greatest rfl rfl rfl (by decide +kernel) ⟨Nat.le_of_ble_eq_true rfl, Nat.le_of_ble_eq_true rfl⟩) kx228 rfl rfl rfl (Nat.le_of_ble_eq_true rfl) dL_refusesAny_444 (fun r444 m444 => ?_)
                                                      refine hr_bipush (v := -2) hC dL_refusesAny_447 (by decide) ?_
                                                      refine hr_icmp_ne (tgt := 521) hC dL_refusesAny_449 (by decide) (fun _ => ?_) (fun _ => ?_)
                                                      · refine hr_aload_n hC dL_refusesAny_452 rfl 3 rfl ?_
                                                        refine hr_bipush (v := 8) hC dL_refusesAny_453 (by decide) ?_
                                                        refine hr_callVi (As := [.int (8 : Int32)]) (k := 228) hC rfl (tX5_greatest (t1 := t1) (t2 := t2) hI n (8 : Int32) m444) (cwV 1 hC.1.2.2.2.2 gL_refusesAny_X5_greatest rfl rfl rfl (by decide +kernel) ⟨Nat.le_of_ble_eq_true rfl, Nat.le_of_ble_eq_true rfl⟩) kx228 rfl rfl rfl (Nat.le_of_ble_eq_true rfl) dL_refusesAny_455 (fun r455 m455 => ?_)
                                                        refine hr_bipush (v := -5) hC dL_refusesAny_458 (by decide) ?_
                                                        refine hr_icmp_ne (tgt := 521) hC dL_refusesAny_460 (by decide) (fun _ => ?_) (fun _ => ?_)
                                                        · refine hr_aload_n hC dL_refusesAny_463 rfl 3 rfl ?_
                                                          refine hr_iload_n hC dL_refusesAny_464 rfl 2 rfl ?_
                                                          refine hr_iconst (v := -1) hC dL_refusesAny_465 (by decide) ?_
                                                          refine hr_callVi (As := [.int r10, .int (-1 : Int32)]) (k := 228) hC rfl (tX5_billIf (t1 := t1) (t2 := t2) hI n r10 (-1 : Int32) m455) (cwV 2 hC.1.2.2.2.2 gL_refusesAny_X5_billIf rfl rfl rfl (by decide +kernel) ⟨Nat.le_of_ble_eq_true rfl, Nat.le_of_ble_eq_true rfl⟩) kx228 rfl rfl rfl (Nat.le_of_ble_eq_true rfl) dL_refusesAny_466 (fun r466 m466 => ?_)
                                                          refine hr_iconst (v := -1) hC dL_refusesAny_469 (by decide) ?_
                                                          refine hr_icmp_ne (tgt := 521) hC dL_refusesAny_470 (by decide) (fun _ => ?_) (fun _ => ?_)
                                                          · refine hr_aload_n hC dL_refusesAny_473 rfl 3 rfl ?_
                                                            refine hr_iconst (v := 0) hC dL_refusesAny_474 (by decide) ?_
                                                            refine hr_iload_n hC dL_refusesAny_475 rfl 4 rfl ?_
                                                            refine hr_if_neT (tgt := 483) hC dL_refusesAny_476 (by decide) (by decide) ?_
                                                            refine hr_bipush (v := 101) hC dL_refusesAny_483 (by decide) ?_
                                                            refine hr_callVi (As := [.int (0 : Int32), .int (101 : Int32)]) (k := 228) hC rfl (tX5_billIf (t1 := t1) (t2 := t2) hI n (0 : Int32) (101 : Int32) m466) (cwV 2 hC.1.2.2.2.2 gL_refusesAny_X5_billIf rfl rfl rfl (by decide +kernel) ⟨Nat.le_of_ble_eq_true rfl, Nat.le_of_ble_eq_true rfl⟩) kx228 rfl rfl rfl (Nat.le_of_ble_eq_true rfl) dL_refusesAny_485 (fun r485 m485 => ?_)
                                                            refine hr_bipush (v := -2) hC dL_refusesAny_488 (by decide) ?_
                                                            refine hr_icmp_ne (tgt := 521) hC dL_refusesAny_490 (by decide) (fun _ => ?_) (fun _ => ?_)
                                                            · refine hr_aload_n hC dL_refusesAny_493 rfl 3 rfl ?_
                                                              refine hr_iload_n hC dL_refusesAny_494 rfl 2 rfl ?_
                                                              refine hr_callVi (As := [.int r10]) (k := 228) hC rfl (tX5_bestShare (t1 := t1) (t2 := t2) hI n r10 m485) (cwV 1 hC.1.2.2.2.2 gL_refusesAny_X5_bestShare rfl rfl rfl (by decide +kernel) ⟨Nat.le_of_ble_eq_true rfl, Nat.le_of_ble_eq_true rfl⟩) kx228 rfl rfl rfl (Nat.le_of_ble_eq_true rfl) dL_refusesAny_495 (fun r495 m495 => ?_)
                                                              refine hr_iconst (v := -1) hC dL_refusesAny_498 (by decide) ?_
                                                              refine hr_icmp_ne (tgt := 521) hC dL_refusesAny_499 (by decide) (fun _ => ?_) (fun _ => ?_)
                                                              · refine hr_aload_n hC dL_refusesAny_502 rfl 3 rfl ?_
                                                                refine hr_iload_n hC dL_refusesAny_503 rfl 4 rfl ?_
                                                                refine hr_if_neT (tgt := 511) hC dL_refusesAny_504 (by decide) (by decide) ?_
                                                                refine hr_bipush (v := 15) hC dL_refusesAny_511 (by decide) ?_
                                                                refine hr_callVi (As := [.int (15 : Int32)]) (k := 228) hC rfl (tX5_count (t1 := t1) (t2 := t2) hI n (15 : Int32) m495) (cwV 1 hC.1.2.2.2.2 gL_refusesAny_X5_count rfl rfl rfl (by decide +kernel) ⟨Nat.le_of_ble_eq_true rfl, Nat.le_of_ble_eq_true rfl⟩) kx228 rfl rfl rfl (Nat.le_of_ble_eq_true rfl) dL_refusesAny_513 (fun r513 m513 => ?_)
                                                                refine hr_bipush (v := -2) hC dL_refusesAny_516 (by decide) ?_
                                                                refine hr_icmp_eq (tgt := 523) hC dL_refusesAny_518 (by decide) (fun _ => ?_) (fun _ => ?_)
                                                                · refine hr_aload_n hC dL_refusesAny_523 rfl 3 rfl ?_
                                                                  refine hr_iconst (v := 0) hC dL_refusesAny_524 (by decide) ?_
                                                                  refine hr_callVi (As := [.int (0 : Int32)]) (k := 228) hC rfl (tX5_count (t1 := t1) (t2 := t2) hI n (0 : Int32) m513) (cwV 1 hC.1.2.2.2.2 gL_refusesAny_X5_count rfl rfl rfl (by decide +kernel) ⟨Nat.le_of_ble_eq_true rfl, Nat.le_of_ble_eq_true rfl⟩) kx228 rfl rfl rfl (Nat.le_of_ble_eq_true rfl) dL_refusesAny_525 (fun r525 m525 => ?_)
                                                                  refine hr_if_eq (tgt := 610) hC dL_refusesAny_528 (by decide) (fun _ => ?_) (fun _ => ?_)
                                                                  · refine hr_iconst (v := 1) hC dL_refusesAny_610 (by decide) ?_
                                                                    refine hr_goto (tgt := 615) hC dL_refusesAny_611 (by decide) ?_
                                                                    exact hr_iretz hC hr dL_refusesAny_615 rfl
                                                                  · refine hr_aload_n hC dL_refusesAny_531 rfl 3 rfl ?_
                                                                    refine hr_iconst (v := 0) hC dL_refusesAny_532 (by decide) ?_
                                                                    refine hr_iload_n hC dL_refusesAny_533 rfl 1 rfl ?_
                                                                    refine hr_iconst (v := 5) hC dL_refusesAny_534 (by decide) ?_
                                                                    refine hr_callVi (As := [.int (0 : Int32), .int r24, .int (5 : Int32)]) (k := 228) hC rfl (tX5_correct (t1 := t1) (t2 := t2) hI n (0 : Int32) r24 (5 : Int32) m525) (cwV 3 hC.1.2.2.2.2 gL_refusesAny_X5_correct rfl rfl rfl (by decide +kernel) ⟨Nat.le_of_ble_eq_true rfl, Nat.le_of_ble_eq_true rfl⟩) kx228 rfl rfl rfl (Nat.le_of_ble_eq_true rfl) dL_refusesAny_535 (fun r535 m535 => ?_)
                                                                    refine hr_iconst (v := -1) hC dL_refusesAny_538 (by decide) ?_
                                                                    refine hr_icmp_ne (tgt := 614) hC dL_refusesAny_539 (by decide) (fun _ => ?_) (fun _ => ?_)
                                                                    · refine hr_aload_n hC dL_refusesAny_542 rfl 3 rfl ?_
                                                                      refine hr_iconst (v := 0) hC dL_refusesAny_543 (by decide) ?_
                                                                      refine hr_iconst (v := 0) hC dL_refusesAny_544 (by decide) ?_
                                                                      refine hr_iload_n hC dL_refusesAny_545 rfl 4 rfl ?_
                                                                      refine hr_if_neT (tgt := 553) hC dL_refusesAny_546 (by decide) (by decide) ?_
                                                                      refine hr_ldc (v := 199981) hC dL_refusesAny_553 hmL_refusesAny1_74 ?_
                                                                      refine hr_callVi (As := [.int (0 : Int32), .int (0 : Int32), .int (199981 : Int32)]) (k := 228) hC rfl (tX5_correct (t1 := t1) (t2 := t2) hI n (0 : Int32) (0 : Int32) (199981 : Int32) m535) (cwV 3 hC.1.2.2.2.2 gL_refusesAny_X5_correct rfl rfl rfl (by decide +kernel) ⟨Nat.le_of_ble_eq_true rfl, Nat.le_of_ble_eq_true rfl⟩) kx228 rfl rfl rfl (Nat.le_of_ble_eq_true rfl) dL_refusesAny_555 (fun r555 m555 => ?_)
                                                                      refine hr_bipush (v := -2) hC dL_refusesAny_558 (by decide) ?_
                                                                      refine hr_icmp_ne (tgt := 614) hC dL_refusesAny_560 (by decide) (fun _ => ?_) (fun _ => ?_)
                                                                      · refine hr_aload_n hC dL_refusesAny_563 rfl 3 rfl ?_
                                                                        refine hr_iconst (v := 0) hC dL_refusesAny_564 (by decide) ?_
                                                                        refine hr_iconst (v := 0) hC dL_refusesAny_565 (by decide) ?_
                                                                        refine hr_aload_n hC dL_refusesAny_566 rfl 3 rfl ?_
                                                                        refine hr_iconst (v := 0) hC dL_refusesAny_567 (by decide) ?_
                                                                        refine hr_iconst (v := 0) hC dL_refusesAny_568 (by decide) ?_
                                                                        refine hr_callVi (As := [.int (0 : Int32), .int (0 : Int32)]) (k := 228) hC rfl (tX5_units (t1 := t1) (t2 := t2) hI n (0 : Int32) (0 : Int32) m555) (cwV 2 hC.1.2.2.2.2 gL_refusesAny_X5_units rfl rfl rfl (by decide +kernel) ⟨Nat.le_of_ble_eq_true rfl, Nat.le_of_ble_eq_true rfl⟩) kx228 rfl rfl rfl (Nat.le_of_ble_eq_true rfl) dL_refusesAny_569 (fun r569 m569 => ?_)
                                                                        refine hr_callVi (As := [.int (0 : Int32), .int (0 : Int32), .int r569]) (k := 228) hC rfl (tX5_correct (t1 := t1) (t2 := t2) hI n (0 : Int32) (0 : Int32) r569 m569) (cwV 3 hC.1.2.2.2.2 gL_refusesAny_X5_correct rfl rfl rfl (by decide +kernel) ⟨Nat.le_of_ble_eq_true rfl, Nat.le_of_ble_eq_true rfl⟩) kx228 rfl rfl rfl (Nat.le_of_ble_eq_true rfl) dL_refusesAny_572 (fun r572 m572 => ?_)
                                                                        refine hr_bipush (v := -5) hC dL_refusesAny_575 (by decide) ?_
                                                                        refine hr_icmp_ne (tgt := 614) hC dL_refusesAny_577 (by decide) (fun _ => ?_) (fun _ => ?_)
                                                                        · refine hr_aload_n hC dL_refusesAny_580 rfl 3 rfl ?_
                                                                          refine hr_iconst (v := 0) hC dL_refusesAny_581 (by decide) ?_
                                                                          refine hr_iload_n hC dL_refusesAny_582 rfl 2 rfl ?_
                                                                          refine hr_iconst (v := 0) hC dL_refusesAny_583 (by decide) ?_
                                                                          refine hr_iconst (v := 1) hC dL_refusesAny_584 (by decide) ?_
                                                                          refine hr_callVi (As := [.int (0 : Int32), .int r10, .int (0 : Int32), .int (1 : Int32)]) (k := 228) hC rfl (tX5_bill (t1 := t1) (t2 := t2) hI n (0 : Int32) r10 (0 : Int32) (1 : Int32) m572) (cwV 4 hC.1.2.2.2.2 gL_refusesAny_X5_bill rfl rfl rfl (by decide +kernel) ⟨Nat.le_of_ble_eq_true rfl, Nat.le_of_ble_eq_true rfl⟩) kx228 rfl rfl rfl (Nat.le_of_ble_eq_true rfl) dL_refusesAny_585 (fun r585 m585 => ?_)
                                                                          refine hr_iconst (v := -1) hC dL_refusesAny_588 (by decide) ?_
                                                                          refine hr_icmp_ne (tgt := 614) hC dL_refusesAny_589 (by decide) (fun _ => ?_) (fun _ => ?_)
                                                                          · refine hr_aload_n hC dL_refusesAny_592 rfl 3 rfl ?_
                                                                            refine hr_iconst (v := 0) hC dL_refusesAny_593 (by decide) ?_
                                                                            refine hr_iload_n hC dL_refusesAny_594 rfl 1 rfl ?_
                                                                            refine hr_callVi (As := [.int (0 : Int32), .int r24]) (k := 228) hC rfl (tX5_units (t1 := t1) (t2 := t2) hI n (0 : Int32) r24 m585) (cwV 2 hC.1.2.2.2.2 gL_refusesAny_X5_units rfl rfl rfl (by decide +kernel) ⟨Nat.le_of_ble_eq_true rfl, Nat.le_of_ble_eq_true rfl⟩) kx228 rfl rfl rfl (Nat.le_of_ble_eq_true rfl) dL_refusesAny_595 (fun r595 m595 => ?_)
                                                                            refine hr_iconst (v := -1) hC dL_refusesAny_598 (by decide) ?_
                                                                            refine hr_icmp_ne (tgt := 614) hC dL_refusesAny_599 (by decide) (fun _ => ?_) (fun _ => ?_)
                                                                            · refine hr_aload_n hC dL_refusesAny_602 rfl 3 rfl ?_
                                                                              refine hr_iconst (v := 5) hC dL_refusesAny_603 (by decide) ?_
                                                                              refine hr_callVi (As := [.int (5 : Int32)]) (k := 228) hC rfl (tX5_addFlat (t1 := t1) (t2 := t2) hI n (5 : Int32) m595) (cwV 1 hC.1.2.2.2.2 gL_refusesAny_X5_addFlat rfl rfl rfl (by decide +kernel) ⟨Nat.le_of_ble_eq_true rfl, Nat.le_of_ble_eq_true rfl⟩) kx228 rfl rfl rfl (Nat.le_of_ble_eq_true rfl) dL_refusesAny_604 (fun r604 m604 => ?_)
                                                                              refine hr_if_ge (tgt := 614) hC dL_refusesAny_607 (by decide) (fun _ => ?_) (fun _ => ?_)
                                                                              · refine hr_iconst (v := 0) hC dL_refusesAny_614 (by decide) ?_
                                                                                exact hr_iretz hC hr dL_refusesAny_615 rfl
                                                                              · refine hr_iconst (v := 1) hC dL_refusesAny_610 (by decide) ?_
                                                                                refine hr_goto (tgt := 615) hC dL_refusesAny_611 (by decide) ?_
                                                                                exact hr_iretz hC hr dL_refusesAny_615 rfl
                                                                            · refine hr_iconst (v := 0) hC dL_refusesAny_614 (by decide) ?_
                                                                              exact hr_iretz hC hr dL_refusesAny_615 rfl
                                                                          · refine hr_iconst (v := 0) hC dL_refusesAny_614 (by decide) ?_
                                                                            exact hr_iretz hC hr dL_refusesAny_615 rfl
                                                                        · refine hr_iconst (v := 0) hC dL_refusesAny_614 (by decide) ?_
                                                                          exact hr_iretz hC hr dL_refusesAny_615 rfl
                                                                      · refine hr_iconst (v := 0) hC dL_refusesAny_614 (by decide) ?_
                                                                        exact hr_iretz hC hr dL_refusesAny_615 rfl
                                                                    · refine hr_iconst (v := 0) hC dL_refusesAny_614 (by decide) ?_
                                                                      exact hr_iretz hC hr dL_refusesAny_615 rfl
                                                                · refine hr_iconst (v := 0) hC dL_refusesAny_521 (by decide) ?_
                                                                  exact hr_iretz hC hr dL_refusesAny_522 rfl
                                                              · refine hr_iconst (v := 0) hC dL_refusesAny_521 (by decide) ?_
                                                                exact hr_iretz hC hr dL_refusesAny_522 rfl
                                                            · refine hr_iconst (v := 0) hC dL_refusesAny_521 (by decide) ?_
                                                              exact hr_iretz hC hr dL_refusesAny_522 rfl
                                                          · refine hr_iconst (v := 0) hC dL_refusesAny_521 (by decide) ?_
                                                            exact hr_iretz hC hr dL_refusesAny_522 rfl
                                                        · refine hr_iconst (v := 0) hC dL_refusesAny_521 (by decide) ?_
                                                          exact hr_iretz hC hr dL_refusesAny_522 rfl
                                                      · refine hr_iconst (v := 0) hC dL_refusesAny_521 (by decide) ?_
                                                        exact hr_iretz hC hr dL_refusesAny_522 rfl
                                                    · refine hr_iconst (v := 0) hC dL_refusesAny_521 (by decide) ?_
                                                      exact hr_iretz hC hr dL_refusesAny_522 rfl
                                                  · refine hr_iconst (v := 0) hC dL_refusesAny_521 (by decide) ?_
                                                    exact hr_iretz hC hr dL_refusesAny_522 rfl
                                                · refine hr_iconst (v := 0) hC dL_refusesAny_521 (by decide) ?_
                                                  exact hr_iretz hC hr dL_refusesAny_522 rfl
                                              · refine hr_iconst (v := 0) hC dL_refusesAny_521 (by decide) ?_
                                                exact hr_iretz hC hr dL_refusesAny_522 rfl
                                            · refine hr_iconst (v := 0) hC dL_refusesAny_521 (by decide) ?_
                                              exact hr_iretz hC hr dL_refusesAny_522 rfl
                                          · refine hr_iconst (v := 0) hC dL_refusesAny_521 (by decide) ?_
                                            exact hr_iretz hC hr dL_refusesAny_522 rfl
                                        · refine hr_iconst (v := 0) hC dL_refusesAny_521 (by decide) ?_
                                          exact hr_iretz hC hr dL_refusesAny_522 rfl
                                      · refine hr_iconst (v := 0) hC dL_refusesAny_521 (by decide) ?_
                                        exact hr_iretz hC hr dL_refusesAny_522 rfl
                                    · refine hr_iconst (v := 0) hC dL_refusesAny_521 (by decide) ?_
                                      exact hr_iretz hC hr dL_refusesAny_522 rfl
                                  · refine hr_iconst (v := 0) hC dL_refusesAny_521 (by decide) ?_
                                    exact hr_iretz hC hr dL_refusesAny_522 rfl
                                · refine hr_iconst (v := 0) hC dL_refusesAny_521 (by decide) ?_
                                  exact hr_iretz hC hr dL_refusesAny_522 rfl
                              · refine hr_iconst (v := 0) hC dL_refusesAny_521 (by decide) ?_
                                exact hr_iretz hC hr dL_refusesAny_522 rfl
                            · refine hr_iconst (v := 0) hC dL_refusesAny_271 (by decide) ?_
                              exact hr_iretz hC hr dL_refusesAny_272 rfl
                        · refine hr_iconst (v := 0) hC dL_refusesAny_271 (by decide) ?_
                          exact hr_iretz hC hr dL_refusesAny_272 rfl
                      · refine hr_iconst (v := 0) hC dL_refusesAny_271 (by decide) ?_
                        exact hr_iretz hC hr dL_refusesAny_272 rfl
                    · refine hr_iconst (v := 0) hC dL_refusesAny_271 (by decide) ?_
                      exact hr_iretz hC hr dL_refusesAny_272 rfl
                  · refine hr_iconst (v := 0) hC dL_refusesAny_271 (by decide) ?_
                    exact hr_iretz hC hr dL_refusesAny_272 rfl
                · refine hr_iconst (v := 0) hC dL_refusesAny_271 (by decide) ?_
                  exact hr_iretz hC hr dL_refusesAny_272 rfl
              · refine hr_iconst (v := 0) hC dL_refusesAny_271 (by decide) ?_
                exact hr_iretz hC hr dL_refusesAny_272 rfl
            · refine hr_iconst (v := 0) hC dL_refusesAny_271 (by decide) ?_
              exact hr_iretz hC hr dL_refusesAny_272 rfl
          · refine hr_iconst (v := 0) hC dL_refusesAny_271 (by decide) ?_
            exact hr_iretz hC hr dL_refusesAny_272 rfl
        · refine hr_iconst (v := 0) hC dL_refusesAny_271 (by decide) ?_
          exact hr_iretz hC hr dL_refusesAny_272 rfl
      · refine hr_iconst (v := 0) hC dL_refusesAny_271 (by decide) ?_
        exact hr_iretz hC hr dL_refusesAny_272 rfl
    · refine hr_iconst (v := 0) hC dL_refusesAny_271 (by decide) ?_
      exact hr_iretz hC hr dL_refusesAny_272 rfl
  · refine hr_iconst (v := 0) hC dL_refusesAny_271 (by decide) ?_
    exact hr_iretz hC hr dL_refusesAny_272 rfl
def fL_refused (n : Nat) (μ : hb_m) : Option (Int32 × hb_m) :=
bl (fL_seen n μ) (fun r1 m1 =>
bi (fX5_count n (13 : Int32) m1) (fun r8 m8 =>
bi (fL_refusesAny0 n m8) (fun r14 m14 =>
if r14 = 0 then
(some ((0 : Int32), m14))
else
(bi (fL_refusesAny1 n m14) (fun r22 m22 =>
if r22 = 0 then
(some ((0 : Int32), m22))
else
(bl (fL_seen n m22) (fun r29 m29 =>
if (lg_cmp r29 r1) = 0 then
(bi (fX5_count n (13 : Int32) m29) (fun r40 m40 =>
if r40 = r8 then
(some ((1 : Int32), m40))
else
(some ((0 : Int32), m40))))
else
(some ((0 : Int32), m29)))))))))
abbrev rmL_refused : Room := { frames := 7, cells := 0, slots := 0, locals := 170 }
set_option maxRecDepth 100000 in
set_option maxHeartbeats 4000000 in
theorem tL_refused {l : Launch} {D : va_G} {ad : Nat → Nat} {dA : Nat → ClassId} {t1 t2 : Nat} (hI : hb_I 241 ad) (n : Nat) (μ : hb_m) : hb_M (hb_Qi vwCl kdX 241 ad D dA) l yL_refused wsL_refused rmL_refused vwCl kdX 241 ad D dA (tbX t1 t2) nwX [.ref (ad 228)] μ (fL_refused n μ) := by
  refine hb_start (cc := cL_refused) (maxL := 4) (ret := (some .boolean)) (by decide) rfl hI (Nat.le_of_ble_eq_true rfl) [(0, .ref (ad 228))] rfl ?_
  intro p e s m args below meth c hC hr
  rw [fL_refused]
  refine hr_aload_n hC dL_refused_0 rfl 0 rfl ?_
  refine hr_callSl (As := [.ref (ad 228)]) hC rfl (tL_seen (t1 := t1) (t2 := t2) hI n μ) (va_cwS 1 hC.1.2.2.2.2 gL_refused_L_seen rfl rfl rfl (by decide +kernel) ⟨Nat.le_of_ble_eq_true rfl, Nat.le_of_ble_eq_true rfl⟩) rfl (Nat.le_of_ble_eq_true rfl) dL_refused_1 (fun r1 m1 => ?_)
  refine hr_lstore_n (lv' := [(1, .long r1), (0, .ref (ad 228))]) hC dL_refused_4 rfl (by decide) rfl ?_
  refine hr_aload_n hC dL_refused_5 rfl 1 rfl ?_
  refine hr_bipush (v := 13) hC dL_refused_6 (by decide) ?_
  refine hr_callVi (As := [.int (13 : Int32)]) (k := 228) hC rfl (tX5_count (t1 := t1) (t2 := t2) hI n (13 : Int32) m1) (cwV 1 hC.1.2.2.2.2 gL_refused_X5_count rfl rfl rfl (by decide +kernel) ⟨Nat.le_of_ble_eq_true rfl, Nat.le_of_ble_eq_true rfl⟩) kx228 rfl rfl rfl (Nat.le_of_ble_eq_true rfl) dL_refused_8 (fun r8 m8 => ?_)
  refine hr_istore_n (lv' := [(3, .int r8), (1, .long r1), (0, .ref (ad 228))]) hC dL_refused_11 rfl (by decide) rfl ?_
  refine hr_aload_n hC dL_refused_12 rfl 2 rfl ?_
  refine hr_iconst (v := 0) hC dL_refused_13 (by decide) ?_
  refine hr_callSi (As := [.ref (ad 228), .int (0 : Int32)]) hC rfl (tL_refusesAny0 (t1 := t1) (t2 := t2) hI n m8) (va_cwS 2 hC.1.2.2.2.2 gL_refused_L_refusesAny rfl rfl rfl (by decide +kernel) ⟨Nat.le_of_ble_eq_true rfl, Nat.le_of_ble_eq_true rfl⟩) rfl (Nat.le_of_ble_eq_true rfl) dL_refused_14 (fun r14 m14 => ?_)
  refine hr_if_eq (tgt := 51) hC dL_refused_17 (by decide) (fun _ => ?_) (fun _ => ?_)
  · refine hr_iconst (v := 0) hC dL_refused_51 (by decide) ?_
    exact hr_iretz hC hr dL_refused_52 rfl
  · refine hr_aload_n hC dL_refused_20 rfl 2 rfl ?_
    refine hr_iconst (v := 1) hC dL_refused_21 (by decide) ?_
    refine hr_callSi (As := [.ref (ad 228), .int (1 : Int32)]) hC rfl (tL_refusesAny1 (t1 := t1) (t2 := t2) hI n m14) (va_cwS 2 hC.1.2.2.2.2 gL_refused_L_refusesAny rfl rfl rfl (by decide +kernel) ⟨Nat.le_of_ble_eq_true rfl, Nat.le_of_ble_eq_true rfl⟩) rfl (Nat.le_of_ble_eq_true rfl) dL_refused_22 (fun r22 m22 => ?_)
    refine hr_if_eq (tgt := 51) hC dL_refused_25 (by decide) (fun _ => ?_) (fun _ => ?_)
    · refine hr_iconst (v := 0) hC dL_refused_51 (by decide) ?_
      exact hr_iretz hC hr dL_refused_52 rfl
    · refine hr_aload_n hC dL_refused_28 rfl 2 rfl ?_
      refine hr_callSl (As := [.ref (ad 228)]) hC rfl (tL_seen (t1 := t1) (t2 := t2) hI n m22) (va_cwS 1 hC.1.2.2.2.2 gL_refused_L_seen rfl rfl rfl (by decide +kernel) ⟨Nat.le_of_ble_eq_true rfl, Nat.le_of_ble_eq_true rfl⟩) rfl (Nat.le_of_ble_eq_true rfl) dL_refused_29 (fun r29 m29 => ?_)
      refine hr_lload_n hC dL_refused_32 rfl 1 rfl ?_
      refine hr_lcmp hC dL_refused_33 ?_
      refine hr_if_ne (tgt := 51) hC dL_refused_34 (by decide) (fun _ => ?_) (fun _ => ?_)
      · refine hr_aload_n hC dL_refused_37 rfl 2 rfl ?_
        refine hr_bipush (v := 13) hC dL_refused_38 (by decide) ?_
        refine hr_callVi (As := [.int (13 : Int32)]) (k := 228) hC rfl (tX5_count (t1 := t1) (t2 := t2) hI n (13 : Int32) m29) (cwV 1 hC.1.2.2.2.2 gL_refused_X5_count rfl rfl rfl (by decide +kernel) ⟨Nat.le_of_ble_eq_true rfl, Nat.le_of_ble_eq_true rfl⟩) kx228 rfl rfl rfl (Nat.le_of_ble_eq_true rfl) dL_refused_40 (fun r40 m40 => ?_)
        refine hr_iload_n hC dL_refused_43 rfl 0 rfl ?_
        refine hr_icmp_ne (tgt := 51) hC dL_refused_44 (by decide) (fun _ => ?_) (fun _ => ?_)
        · refine hr_iconst (v := 1) hC dL_refused_47 (by decide) ?_
          refine hr_goto (tgt := 52) hC dL_refused_48 (by decide) ?_
          exact hr_iretz hC hr dL_refused_52 rfl
        · refine hr_iconst (v := 0) hC dL_refused_51 (by decide) ?_
          exact hr_iretz hC hr dL_refused_52 rfl
      · refine hr_iconst (v := 0) hC dL_refused_51 (by decide) ?_
        exact hr_iretz hC hr dL_refused_52 rfl
theorem hmL_types_102 : Cond.constantLong RL 102 (255) ∈ wsL_types := List.mem_of_getElem? (i := 1) rfl
def lL_types_6 (n : Nat) (p1 : Int64) (k : Int32 → Int32 → hb_m → Option (Int32 × hb_m)) : Nat → Int32 → Int32 → hb_m → Option (Int32 × hb_m)
  | 0, _, _, _ => none
  | f + 1, x4, x3, μ => if x4 < 0 then
(k x4 x3 μ)
else
(if x3 = 0 then
(lL_types_6 n p1 k f (x4 + (-8 : Int32)) (0 : Int32) μ)
else
(if ((p1 >>> (x4.toInt64 &&& 63)) &&& (255 : Int64)).toInt32 = 0 then
(lL_types_6 n p1 k f (x4 + (-8 : Int32)) (1 : Int32) μ)
else
(bi (fX5_type n (((p1 >>> (x4.toInt64 &&& 63)) &&& (255 : Int64)).toInt32.toUInt32 % 65536).toInt32 μ) (fun r35 m35 =>
if r35 ≤ 0 then
(lL_types_6 n p1 k f (x4 + (-8 : Int32)) (0 : Int32) m35)
else
(lL_types_6 n p1 k f (x4 + (-8 : Int32)) (1 : Int32) m35)))))
def fL_types (n : Nat) (p1 : Int64) (μ : hb_m) : Option (Int32 × hb_m) :=
lL_types_6 n p1 (fun x4_6 x3_6 m6 =>
if vp_nar .boolean x3_6 = x3_6 then some (x3_6, m6) else none) n (56 : Int32) (1 : Int32) μ
abbrev rmL_types : Room := { frames := 2, cells := 0, slots := 0, locals := 42 }
set_option maxRecDepth 100000 in
set_option maxHeartbeats 4000000 in
theorem tL_types {l : Launch} {D : va_G} {ad : Nat → Nat} {dA : Nat → ClassId} {t1 t2 : Nat} (hI : hb_I 241 ad) (n : Nat) (p1 : Int64) (μ : hb_m) : hb_M (hb_Qi vwCl kdX 241 ad D dA) l yL_types wsL_types rmL_types vwCl kdX 241 ad D dA (tbX t1 t2) nwX [.ref (ad 228), .long p1] μ (fL_types n p1 μ) := by
  refine hb_start (cc := cL_types) (maxL := 6) (ret := (some .boolean)) (by decide) rfl hI (Nat.le_of_ble_eq_true rfl) [(0, .ref (ad 228)), (1, .long p1)] rfl ?_
  intro p e s m args below meth c hC hr
  have L6 : ∀ (k : Int32 → Int32 → hb_m → Option (Int32 × hb_m)) (hk : ∀ (x4 : Int32) (x3 : Int32) (μ : hb_m), hb_V p l e rmL_types s m args below meth c 6 vwCl kdX 241 ad D dA (hb_Qi vwCl kdX 241 ad D dA) μ 53 [(4, .int x4), (3, .int x3), (0, .ref (ad 228)), (1, .long p1)] [] (k x4 x3 μ)) (f : Nat) (x4 : Int32) (x3 : Int32) (μ : hb_m), hb_V p l e rmL_types s m args below meth c 6 vwCl kdX 241 ad D dA (hb_Qi vwCl kdX 241 ad D dA) μ 6 [(4, .int x4), (3, .int x3), (0, .ref (ad 228)), (1, .long p1)] [] (lL_types_6 n p1 k f x4 x3 μ) := by
    intro k hk f
    induction f with
    | zero => intro x4 x3 μ; rw [lL_types_6]; exact hr_none
    | succ f ih =>
      intro x4 x3 μ
      rw [lL_types_6]
      refine hr_iload hC dL_types_6 0 rfl ?_
      refine hr_if_lt (tgt := 53) hC dL_types_8 (by decide) (fun _ => ?_) (fun _ => ?_)
      · refine hr_sub (lv' := [(4, .int x4), (3, .int x3), (0, .ref (ad 228)), (1, .long p1)]) [0, 1, 2, 3] rfl ?_
        exact hk _ _ _
      · refine hr_lload_n hC dL_types_11 rfl 3 rfl ?_
        refine hr_iload hC dL_types_12 0 rfl ?_
        refine hr_lshr hC dL_types_14 ?_
        refine hr_ldc2 (v := 255) hC dL_types_15 hmL_types_102 ?_
        refine hr_land hC dL_types_18 ?_
        refine hr_l2i hC dL_types_19 ?_
        refine hr_istore (lv' := [(5, .int ((p1 >>> (x4.toInt64 &&& 63)) &&& (255 : Int64)).toInt32), (4, .int x4), (3, .int x3), (0, .ref (ad 228)), (1, .long p1)]) hC dL_types_20 (by decide) rfl ?_
        refine hr_iload_n hC dL_types_22 rfl 2 rfl ?_
        refine hr_if_eq (tgt := 45) hC dL_types_23 (by decide) (fun _ => ?_) (fun _ => ?_)
        · refine hr_iconst (v := 0) hC dL_types_45 (by decide) ?_
          refine hr_istore_n (lv' := [(3, .int (0 : Int32)), (5, .int ((p1 >>> (x4.toInt64 &&& 63)) &&& (255 : Int64)).toInt32), (4, .int x4), (0, .ref (ad 228)), (1, .long p1)]) hC dL_types_46 rfl (by decide) rfl ?_
          refine hr_iinc (v := (x4 + (-8 : Int32))) (lv' := [(4, .int (x4 + (-8 : Int32))), (3, .int (0 : Int32)), (5, .int ((p1 >>> (x4.toInt64 &&& 63)) &&& (255 : Int64)).toInt32), (0, .ref (ad 228)), (1, .long p1)]) (kx := 2) hC dL_types_47 rfl rfl (by decide) rfl ?_
          refine hr_goto (tgt := 6) hC dL_types_50 (by decide) ?_
          refine hr_sub (lv' := [(4, .int (x4 + (-8 : Int32))), (3, .int (0 : Int32)), (0, .ref (ad 228)), (1, .long p1)]) [0, 1, 3, 4] rfl ?_
          exact ih _ _ _
        · refine hr_iload hC dL_types_26 0 rfl ?_
          refine hr_if_eq (tgt := 41) hC dL_types_28 (by decide) (fun _ => ?_) (fun _ => ?_)
          · refine hr_iconst (v := 1) hC dL_types_41 (by decide) ?_
            refine hr_goto (tgt := 46) hC dL_types_42 (by decide) ?_
            refine hr_istore_n (lv' := [(3, .int (1 : Int32)), (5, .int ((p1 >>> (x4.toInt64 &&& 63)) &&& (255 : Int64)).toInt32), (4, .int x4), (0, .ref (ad 228)), (1, .long p1)]) hC dL_types_46 rfl (by decide) rfl ?_
            refine hr_iinc (v := (x4 + (-8 : Int32))) (lv' := [(4, .int (x4 + (-8 : Int32))), (3, .int (1 : Int32)), (5, .int ((p1 >>> (x4.toInt64 &&& 63)) &&& (255 : Int64)).toInt32), (0, .ref (ad 228)), (1, .long p1)]) (kx := 2) hC dL_types_47 rfl rfl (by decide) rfl ?_
            refine hr_goto (tgt := 6) hC dL_types_50 (by decide) ?_
            refine hr_sub (lv' := [(4, .int (x4 + (-8 : Int32))), (3, .int (1 : Int32)), (0, .ref (ad 228)), (1, .long p1)]) [0, 1, 3, 4] rfl ?_
            exact ih _ _ _
          · refine hr_aload_n hC dL_types_31 rfl 3 rfl ?_
            refine hr_iload hC dL_types_32 0 rfl ?_
            refine hr_i2c hC dL_types_34 ?_
            refine hr_callVi (As := [.int (((p1 >>> (x4.toInt64 &&& 63)) &&& (255 : Int64)).toInt32.toUInt32 % 65536).toInt32]) (k := 228) hC rfl (tX5_type (t1 := t1) (t2 := t2) hI n (((p1 >>> (x4.toInt64 &&& 63)) &&& (255 : Int64)).toInt32.toUInt32 % 65536).toInt32 μ) (cwV 1 hC.1.2.2.2.2 gL_types_X5_type rfl rfl rfl (by decide +kernel) ⟨Nat.le_of_ble_eq_true rfl, Nat.le_of_ble_eq_true rfl⟩) kx228 rfl rfl rfl (Nat.le_of_ble_eq_true rfl) dL_types_35 (fun r35 m35 => ?_)
            refine hr_if_le (tgt := 45) hC dL_types_38 (by decide) (fun _ => ?_) (fun _ => ?_)
            · refine hr_iconst (v := 0) hC dL_types_45 (by decide) ?_
              refine hr_istore_n (lv' := [(3, .int (0 : Int32)), (5, .int ((p1 >>> (x4.toInt64 &&& 63)) &&& (255 : Int64)).toInt32), (4, .int x4), (0, .ref (ad 228)), (1, .long p1)]) hC dL_types_46 rfl (by decide) rfl ?_
              refine hr_iinc (v := (x4 + (-8 : Int32))) (lv' := [(4, .int (x4 + (-8 : Int32))), (3, .int (0 : Int32)), (5, .int ((p1 >>> (x4.toInt64 &&& 63)) &&& (255 : Int64)).toInt32), (0, .ref (ad 228)), (1, .long p1)]) (kx := 2) hC dL_types_47 rfl rfl (by decide) rfl ?_
              refine hr_goto (tgt := 6) hC dL_types_50 (by decide) ?_
              refine hr_sub (lv' := [(4, .int (x4 + (-8 : Int32))), (3, .int (0 : Int32)), (0, .ref (ad 228)), (1, .long p1)]) [0, 1, 3, 4] rfl ?_
              exact ih _ _ _
            · refine hr_iconst (v := 1) hC dL_types_41 (by decide) ?_
              refine hr_goto (tgt := 46) hC dL_types_42 (by decide) ?_
              refine hr_istore_n (lv' := [(3, .int (1 : Int32)), (5, .int ((p1 >>> (x4.toInt64 &&& 63)) &&& (255 : Int64)).toInt32), (4, .int x4), (0, .ref (ad 228)), (1, .long p1)]) hC dL_types_46 rfl (by decide) rfl ?_
              refine hr_iinc (v := (x4 + (-8 : Int32))) (lv' := [(4, .int (x4 + (-8 : Int32))), (3, .int (1 : Int32)), (5, .int ((p1 >>> (x4.toInt64 &&& 63)) &&& (255 : Int64)).toInt32), (0, .ref (ad 228)), (1, .long p1)]) (kx := 2) hC dL_types_47 rfl rfl (by decide) rfl ?_
              refine hr_goto (tgt := 6) hC dL_types_50 (by decide) ?_
              refine hr_sub (lv' := [(4, .int (x4 + (-8 : Int32))), (3, .int (1 : Int32)), (0, .ref (ad 228)), (1, .long p1)]) [0, 1, 3, 4] rfl ?_
              exact ih _ _ _
  rw [fL_types]
  refine hr_iconst (v := 1) hC dL_types_0 (by decide) ?_
  refine hr_istore_n (lv' := [(3, .int (1 : Int32)), (0, .ref (ad 228)), (1, .long p1)]) hC dL_types_1 rfl (by decide) rfl ?_
  refine hr_bipush (v := 56) hC dL_types_2 (by decide) ?_
  refine hr_istore (lv' := [(4, .int (56 : Int32)), (3, .int (1 : Int32)), (0, .ref (ad 228)), (1, .long p1)]) hC dL_types_4 (by decide) rfl ?_
  refine hr_sub (lv' := [(4, .int (56 : Int32)), (3, .int (1 : Int32)), (0, .ref (ad 228)), (1, .long p1)]) [0, 1, 2, 3] rfl ?_
  refine L6 _ (fun x4_6 x3_6 m6 => ?_) _ _ _ _
  refine hr_iload_n hC dL_types_53 rfl 1 rfl ?_
  exact hr_iretzC hC hr dL_types_54

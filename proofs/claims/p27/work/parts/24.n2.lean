theorem hmL_texts_119 : Cond.constantLong RL 119 (3289149) ∈ wsL_texts := List.mem_of_getElem? (i := 1) rfl
theorem hmL_texts_121 : Cond.constantLong RL 121 (3225917) ∈ wsL_texts := List.mem_of_getElem? (i := 2) rfl
theorem hmL_texts_123 : Cond.constantLong RL 123 (12341) ∈ wsL_texts := List.mem_of_getElem? (i := 3) rfl
theorem hmL_texts_125 : Cond.constantLong RL 125 (826093616) ∈ wsL_texts := List.mem_of_getElem? (i := 4) rfl
theorem hmL_texts_127 : Cond.constantLong RL 127 (13859555363730485) ∈ wsL_texts := List.mem_of_getElem? (i := 5) rfl
theorem hmL_texts_129 : Cond.constantLong RL 129 (3226943) ∈ wsL_texts := List.mem_of_getElem? (i := 6) rfl
theorem hmL_texts_131 : Cond.constantLong RL 131 (12605) ∈ wsL_texts := List.mem_of_getElem? (i := 7) rfl
theorem hmL_texts_133 : Cond.constantLong RL 133 (49) ∈ wsL_texts := List.mem_of_getElem? (i := 8) rfl
theorem hmL_texts_135 : Cond.constantLong RL 135 (826097467) ∈ wsL_texts := List.mem_of_getElem? (i := 9) rfl
theorem hmL_texts_137 : Cond.constantLong RL 137 (826097461) ∈ wsL_texts := List.mem_of_getElem? (i := 10) rfl
theorem hmL_texts_139 : Cond.constantLong RL 139 (63) ∈ wsL_texts := List.mem_of_getElem? (i := 11) rfl
theorem hmL_texts_141 : Cond.constantLong RL 141 (3692170187449645876) ∈ wsL_texts := List.mem_of_getElem? (i := 12) rfl
theorem hmL_texts_143 : Cond.constantLong RL 143 (15664) ∈ wsL_texts := List.mem_of_getElem? (i := 13) rfl
theorem hmL_texts_145 : Cond.constantLong RL 145 (14422530986360112) ∈ wsL_texts := List.mem_of_getElem? (i := 14) rfl
theorem hmL_texts_147 : Cond.constantLong RL 147 (220070361908) ∈ wsL_texts := List.mem_of_getElem? (i := 15) rfl
theorem hmL_texts_149 : Cond.constantLong RL 149 (960052529) ∈ wsL_texts := List.mem_of_getElem? (i := 16) rfl
theorem hmL_texts_cl : Cond.classLink RL 14 RX5 ∈ wsL_texts := List.mem_of_getElem? (i := 17) rfl
theorem hmL_texts_in : Cond.instantiable RX5 6 ∈ wsL_texts := List.mem_of_getElem? (i := 18) rfl
theorem hmL_texts_ini : Cond.initialized RX5 ∈ wsL_texts := List.mem_of_getElem? (i := 19) rfl
theorem hmL_texts_ml : Cond.methodLink RL 83 yX5_init ∈ wsL_texts := List.mem_of_getElem? (i := 28) rfl
theorem hmL_texts_im : Cond.instanceMethod yX5_init ∈ wsL_texts := List.mem_of_getElem? (i := 29) rfl
theorem hmL_texts_151 : Cond.constantLong RL 151 (3475991907811278129) ∈ wsL_texts := List.mem_of_getElem? (i := 20) rfl
theorem hmL_texts_156 : Cond.constantLong RL 156 (3548061604882756665) ∈ wsL_texts := List.mem_of_getElem? (i := 21) rfl
theorem hmL_texts_158 : Cond.constantLong RL 158 (3548061604882757168) ∈ wsL_texts := List.mem_of_getElem? (i := 22) rfl
theorem hmL_texts_160 : Cond.constantLong RL 160 (993082677) ∈ wsL_texts := List.mem_of_getElem? (i := 23) rfl
theorem hiL_texts_X5 : ∀ w ∈ wsX50, w ∈ wsL_texts := fun _ h => List.mem_cons_of_mem _ (List.mem_append_left _ (List.mem_append_left _ (List.mem_append_left _ (List.mem_append_left _ (List.mem_append_left _ (List.mem_append_right _ h))))))
def lL_texts_413 (n : Nat) (k : Int32 → lm → Option Int32) : Nat → Int32 → lm → Option Int32
  | 0, _, _ => none
  | f + 1, x1, μ => if (60 : Int32) ≤ x1 then
(k x1 μ)
else
(bi (fX5_type n (49 : Int32) μ.1) (fun r422 m422 =>
if r422 = (x1 + (1 : Int32)) then
(lL_texts_413 n k f (x1 + (1 : Int32)) (m422, μ.2))
else
(some (0 : Int32))))
set_option maxRecDepth 100000 in
def fL_texts (n : Nat) : Option Int32 :=
bn (fL_faultOf n (0 : Int64) (0 : Int64)) (fun r2 =>
if r2 = 0 then
(bn (fL_faultOf n (3289149 : Int64) (0 : Int64)) (fun r12 =>
if r12 = (1 : Int32) then
(bn (fL_faultOf n (3225917 : Int64) (0 : Int64)) (fun r23 =>
if r23 = (3 : Int32) then
(bn (fL_faultOf n (12341 : Int64) (0 : Int64)) (fun r34 =>
if r34 = (1 : Int32) then
(bn (fL_faultOf n (826093616 : Int64) (0 : Int64)) (fun r45 =>
if r45 = (3 : Int32) then
(bn (fL_faultOf n (13859555363730485 : Int64) (0 : Int64)) (fun r56 =>
if r56 = (6 : Int32) then
(bn (fL_faultOf n (3226943 : Int64) (0 : Int64)) (fun r68 =>
if r68 = (-1 : Int32) then
(bn (fL_faultOf n (12605 : Int64) (0 : Int64)) (fun r79 =>
if r79 = (2 : Int32) then
(bn (fL_faultOf n (49 : Int64) (0 : Int64)) (fun r92 =>
if r92 = (1 : Int32) then
(bn (fL_faultOf n (826097467 : Int64) (0 : Int64)) (fun r103 =>
if r103 = (4 : Int32) then
(bn (fL_faultOf n (826097461 : Int64) (0 : Int64)) (fun r114 =>
if r114 = (3 : Int32) then
(bn (fL_faultOf n (63 : Int64) (0 : Int64)) (fun r125 =>
if r125 = 0 then
(bn (fL_faultOf n (3692170187449645876 : Int64) (15664 : Int64)) (fun r137 =>
if r137 = (-1 : Int32) then
(bn (fL_faultOf n (14422530986360112 : Int64) (0 : Int64)) (fun r148 =>
if r148 = (3 : Int32) then
(bn (fL_faultOf n (220070361908 : Int64) (0 : Int64)) (fun r159 =>
if r159 = (5 : Int32) then
(bn (fL_faultOf n (960052529 : Int64) (0 : Int64)) (fun r170 =>
if r170 = (1 : Int32) then
(bi (fX5_addFlat n (9 : Int32) mz) (fun r190 m190 =>
if r190 = 0 then
(bi (fX5_addDevice n (0 : Int32) (2 : Int32) m190) (fun r199 m199 =>
if r199 = 0 then
(bi (fX5_addDevice n (0 : Int32) (3 : Int32) m199) (fun r208 m208 =>
if r208 = (1 : Int32) then
(bi (fX5_read n (0 : Int32) (50 : Int32) m208) (fun r219 m219 =>
if r219 = (100 : Int32) then
(bi (fX5_close n m219) (fun r228 m228 =>
if r228 = 0 then
(bi (fX5_count n (13 : Int32) m228) (fun r237 m237 =>
if r237 = (4 : Int32) then
(bi (fL_types n (3475991907811278129 : Int64) m237) (fun r250 m250 =>
if r250 = 0 then
(some (0 : Int32))
else
(bi (fX5_readAll n m250) (fun r257 m257 =>
if r257 = (-1 : Int32) then
(bi (fX5_clearText n m257) (fun r265 m265 =>
if r265 = (8 : Int32) then
(bi (fL_types n (3548061604882756665 : Int64) m265) (fun r277 m277 =>
if r277 = 0 then
(some (0 : Int32))
else
(bi (fX5_readAll n m277) (fun r284 m284 =>
if r284 = (-4 : Int32) then
(bi (fX5_clearText n m284) (fun r293 m293 =>
if r293 = (8 : Int32) then
(bi (fX5_device n (1 : Int32) (4 : Int32) m293) (fun r304 m304 =>
if r304 = 0 then
(bi (fL_types n (3548061604882757168 : Int64) m304) (fun r316 m316 =>
if r316 = 0 then
(some (0 : Int32))
else
(bi (fL_types n (993082677 : Int64) m316) (fun r326 m326 =>
if r326 = 0 then
(some (0 : Int32))
else
(bi (fX5_readAll n m326) (fun r333 m333 =>
if r333 = (3 : Int32) then
(bi (fX5_device n (1 : Int32) (4 : Int32) m333) (fun r343 m343 =>
if r343 = 0 then
(bi (fX5_device n (1 : Int32) (3 : Int32) m343) (fun r352 m352 =>
if r352 = (5 : Int32) then
(bi (fX5_device n (1 : Int32) (5 : Int32) m352) (fun r362 m362 =>
if r362 = (15 : Int32) then
(bi (fX5_device n (0 : Int32) (5 : Int32) m362) (fun r373 m373 =>
if r373 = (20 : Int32) then
(bi (fX5_clearText n m373) (fun r382 m382 =>
if r382 = (12 : Int32) then
(bi (fX5_undo n m382) (fun r391 m391 =>
if r391 = (3 : Int32) then
(bi (fX5_device n (0 : Int32) (3 : Int32) m391) (fun r401 m401 =>
if r401 = (50 : Int32) then
(lL_texts_413 n (fun x1_413 m413 =>
bi (fX5_type n (49 : Int32) m413.1) (fun r442 m442 =>
if r442 = (-3 : Int32) then
(bi (fX5_readAll n m442) (fun r451 m451 =>
if r451 = (-102 : Int32) then
(bi (fX5_clearText n m451) (fun r460 m460 =>
if r460 = (60 : Int32) then
(some (1 : Int32))
else
(some (0 : Int32))))
else
(some (0 : Int32))))
else
(some (0 : Int32)))) n (0 : Int32) (m401, (fun _ => 0)))
else
(some (0 : Int32))))
else
(some (0 : Int32))))
else
(some (0 : Int32))))
else
(some (0 : Int32))))
else
(some (0 : Int32))))
else
(some (0 : Int32))))
else
(some (0 : Int32))))
else
(some (0 : Int32))))))))
else
(some (0 : Int32))))
else
(some (0 : Int32))))
else
(some (0 : Int32))))))
else
(some (0 : Int32))))
else
(some (0 : Int32))))))
else
(some (0 : Int32))))
else
(some (0 : Int32))))
else
(some (0 : Int32))))
else
(some (0 : Int32))))
else
(some (0 : Int32))))
else
(some (0 : Int32))))
else
(some (0 : Int32))))
else
(some (0 : Int32))))
else
(some (0 : Int32))))
else
(some (0 : Int32))))
else
(some (0 : Int32))))
else
(some (0 : Int32))))
else
(some (0 : Int32))))
else
(some (0 : Int32))))
else
(some (0 : Int32))))
else
(some (0 : Int32))))
else
(some (0 : Int32))))
else
(some (0 : Int32))))
else
(some (0 : Int32))))
else
(some (0 : Int32))))
else
(some (0 : Int32))))
else
(some (0 : Int32)))
abbrev rmL_texts : Room := { frames := 7, cells := 4097, slots := 54179, locals := 215 }
set_option maxRecDepth 100000 in
set_option maxHeartbeats 4000000 in
theorem tL_texts {l : Launch} {D : va_G} {cI cZ cC cJ cY cH : ClassId} {t1 t2 : Nat} (n : Nat) : ∀ r, fL_texts n = some r → Met l yL_texts wsL_texts rmL_texts (va_Pc [] (nR D cI cZ cC cJ cY cH t1 t2)) (nQ r) 4097 54179 (fun _ => False) := by
  refine n_start (cc := cL_texts) (maxL := 2) (ret := (some .boolean)) (by decide) rfl (Nat.le_of_ble_eq_true rfl) [] rfl ?_
  intro p e s m args below meth c hC hr
  have L413 : ∀ (ad : Nat → Nat) (k : Int32 → lm → Option Int32) (hk : ∀ (x1 : Int32) (μ : lm), nV p l e rmL_texts s m args below meth c 2 D cI cZ cC cJ cY cH (nqQ below args s 4097 54179) (some ad, none) 4097 54179 μ 439 [(1, .int x1), (0, .ref (ad 228))] [] (k x1 μ)) (f : Nat) (x1 : Int32) (μ : lm), nV p l e rmL_texts s m args below meth c 2 D cI cZ cC cJ cY cH (nqQ below args s 4097 54179) (some ad, none) 4097 54179 μ 413 [(1, .int x1), (0, .ref (ad 228))] [] (lL_texts_413 n k f x1 μ) := by
    intro ad k hk f
    induction f with
    | zero => intro x1 μ; rw [lL_texts_413]; exact nr_none
    | succ f ih =>
      intro x1 μ
      rw [lL_texts_413]
      refine nr_iload_n hC dL_texts_413 rfl 0 rfl ?_
      refine nr_bipush (v := 60) hC dL_texts_414 (by decide) ?_
      refine nr_icmp_ge (tgt := 439) hC dL_texts_416 (by decide) (fun _ => ?_) (fun _ => ?_)
      · refine nr_sub (lv' := [(1, .int x1), (0, .ref (ad 228))]) [0, 1] rfl ?_
        exact hk _ _
      · refine nr_aload_n hC dL_texts_419 rfl 1 rfl ?_
        refine nr_bipush (v := 49) hC dL_texts_420 (by decide) ?_
        refine nr_callVi (As := [.int (49 : Int32)]) hC rfl (fun hI => tX5_type (t1 := t1) (t2 := t2) hI n (49 : Int32) μ.1) (cwV 1 hC.1.2.2.2.2 gL_texts_X5_type rfl rfl rfl (by decide +kernel) ⟨Nat.le_of_ble_eq_true rfl, Nat.le_of_ble_eq_true rfl⟩) rfl (Nat.le_of_ble_eq_true rfl) ⟨Nat.le_of_ble_eq_true rfl, Nat.le_of_ble_eq_true rfl⟩ dL_texts_422 (fun r422 m422 => ?_)
        refine nr_iload_n hC dL_texts_425 rfl 0 rfl ?_
        refine nr_iconst (v := 1) hC dL_texts_426 (by decide) ?_
        refine nr_iadd hC dL_texts_427 ?_
        refine nr_icmp_eq (tgt := 433) hC dL_texts_428 (by decide) (fun _ => ?_) (fun _ => ?_)
        · refine nr_iinc (v := (x1 + (1 : Int32))) (lv' := [(1, .int (x1 + (1 : Int32))), (0, .ref (ad 228))]) (kx := 0) hC dL_texts_433 rfl rfl (by decide) rfl ?_
          refine nr_goto (tgt := 413) hC dL_texts_436 (by decide) ?_
          refine nr_sub (lv' := [(1, .int (x1 + (1 : Int32))), (0, .ref (ad 228))]) [0, 1] rfl ?_
          exact ih _ _
        · refine nr_iconst (v := 0) hC dL_texts_431 (by decide) ?_
          exact nr_iretz hC hr (Nat.le_of_ble_eq_true rfl) (Nat.le_of_ble_eq_true rfl) dL_texts_432 rfl
  rw [fL_texts]
  refine nr_lconst (v := 0) hC dL_texts_0 (by decide) ?_
  refine nr_lconst (v := 0) hC dL_texts_1 (by decide) ?_
  refine nr_callN (As := [.long (0 : Int64), .long (0 : Int64)]) hC rfl (tL_faultOf n (0 : Int64) (0 : Int64)) nR_blind (fun U H locs hU hWm hS => nR_at hC.2.1 hU hWm hS) (va_cwS 2 hC.1.2.2.2.2 gL_texts_L_faultOf rfl rfl rfl (by decide +kernel) ⟨Nat.le_of_ble_eq_true rfl, Nat.le_of_ble_eq_true rfl⟩) rfl (Nat.le_of_ble_eq_true rfl) ⟨Nat.le_of_ble_eq_true rfl, Nat.le_of_ble_eq_true rfl⟩ dL_texts_2 (fun r2 => ?_)
  refine nr_if_ne (tgt := 86) hC dL_texts_5 (by decide) (fun _ => ?_) (fun _ => ?_)
  · refine nr_ldc2 (v := 3289149) hC dL_texts_8 hmL_texts_119 ?_
    refine nr_lconst (v := 0) hC dL_texts_11 (by decide) ?_
    refine nr_callN (As := [.long (3289149 : Int64), .long (0 : Int64)]) hC rfl (tL_faultOf n (3289149 : Int64) (0 : Int64)) nR_blind (fun U H locs hU hWm hS => nR_at hC.2.1 hU hWm hS) (va_cwS 2 hC.1.2.2.2.2 gL_texts_L_faultOf rfl rfl rfl (by decide +kernel) ⟨Nat.le_of_ble_eq_true rfl, Nat.le_of_ble_eq_true rfl⟩) rfl (Nat.le_of_ble_eq_true rfl) ⟨Nat.le_of_ble_eq_true rfl, Nat.le_of_ble_eq_true rfl⟩ dL_texts_12 (fun r12 => ?_)
    refine nr_iconst (v := 1) hC dL_texts_15 (by decide) ?_
    refine nr_icmp_ne (tgt := 86) hC dL_texts_16 (by decide) (fun _ => ?_) (fun _ => ?_)
    · refine nr_ldc2 (v := 3225917) hC dL_texts_19 hmL_texts_121 ?_
      refine nr_lconst (v := 0) hC dL_texts_22 (by decide) ?_
      refine nr_callN (As := [.long (3225917 : Int64), .long (0 : Int64)]) hC rfl (tL_faultOf n (3225917 : Int64) (0 : Int64)) nR_blind (fun U H locs hU hWm hS => nR_at hC.2.1 hU hWm hS) (va_cwS 2 hC.1.2.2.2.2 gL_texts_L_faultOf rfl rfl rfl (by decide +kernel) ⟨Nat.le_of_ble_eq_true rfl, Nat.le_of_ble_eq_true rfl⟩) rfl (Nat.le_of_ble_eq_true rfl) ⟨Nat.le_of_ble_eq_true rfl, Nat.le_of_ble_eq_true rfl⟩ dL_texts_23 (fun r23 => ?_)
      refine nr_iconst (v := 3) hC dL_texts_26 (by decide) ?_
      refine nr_icmp_ne (tgt := 86) hC dL_texts_27 (by decide) (fun _ => ?_) (fun _ => ?_)
      · refine nr_ldc2 (v := 12341) hC dL_texts_30 hmL_texts_123 ?_
        refine nr_lconst (v := 0) hC dL_texts_33 (by decide) ?_
        refine nr_callN (As := [.long (12341 : Int64), .long (0 : Int64)]) hC rfl (tL_faultOf n (12341 : Int64) (0 : Int64)) nR_blind (fun U H locs hU hWm hS => nR_at hC.2.1 hU hWm hS) (va_cwS 2 hC.1.2.2.2.2 gL_texts_L_faultOf rfl rfl rfl (by decide +kernel) ⟨Nat.le_of_ble_eq_true rfl, Nat.le_of_ble_eq_true rfl⟩) rfl (Nat.le_of_ble_eq_true rfl) ⟨Nat.le_of_ble_eq_true rfl, Nat.le_of_ble_eq_true rfl⟩ dL_texts_34 (fun r34 => ?_)
        refine nr_iconst (v := 1) hC dL_texts_37 (by decide) ?_
        refine nr_icmp_ne (tgt := 86) hC dL_texts_38 (by decide) (fun _ => ?_) (fun _ => ?_)
        · refine nr_ldc2 (v := 826093616) hC dL_texts_41 hmL_texts_125 ?_
          refine nr_lconst (v := 0) hC dL_texts_44 (by decide) ?_
          refine nr_callN (As := [.long (826093616 : Int64), .long (0 : Int64)]) hC rfl (tL_faultOf n (826093616 : Int64) (0 : Int64)) nR_blind (fun U H locs hU hWm hS => nR_at hC.2.1 hU hWm hS) (va_cwS 2 hC.1.2.2.2.2 gL_texts_L_faultOf rfl rfl rfl (by decide +kernel) ⟨Nat.le_of_ble_eq_true rfl, Nat.le_of_ble_eq_true rfl⟩) rfl (Nat.le_of_ble_eq_true rfl) ⟨Nat.le_of_ble_eq_true rfl, Nat.le_of_ble_eq_true rfl⟩ dL_texts_45 (fun r45 => ?_)
          refine nr_iconst (v := 3) hC dL_texts_48 (by decide) ?_
          refine nr_icmp_ne (tgt := 86) hC dL_texts_49 (by decide) (fun _ => ?_) (fun _ => ?_)
          · refine nr_ldc2 (v := 13859555363730485) hC dL_texts_52 hmL_texts_127 ?_
            refine nr_lconst (v := 0) hC dL_texts_55 (by decide) ?_
            refine nr_callN (As := [.long (13859555363730485 : Int64), .long (0 : Int64)]) hC rfl (tL_faultOf n (13859555363730485 : Int64) (0 : Int64)) nR_blind (fun U H locs hU hWm hS => nR_at hC.2.1 hU hWm hS) (va_cwS 2 hC.1.2.2.2.2 gL_texts_L_faultOf rfl rfl rfl (by decide +kernel) ⟨Nat.le_of_ble_eq_true rfl, Nat.le_of_ble_eq_true rfl⟩) rfl (Nat.le_of_ble_eq_true rfl) ⟨Nat.le_of_ble_eq_true rfl, Nat.le_of_ble_eq_true rfl⟩ dL_texts_56 (fun r56 => ?_)
            refine nr_bipush (v := 6) hC dL_texts_59 (by decide) ?_
            refine nr_icmp_ne (tgt := 86) hC dL_texts_61 (by decide) (fun _ => ?_) (fun _ => ?_)
            · refine nr_ldc2 (v := 3226943) hC dL_texts_64 hmL_texts_129 ?_
              refine nr_lconst (v := 0) hC dL_texts_67 (by decide) ?_
              refine nr_callN (As := [.long (3226943 : Int64), .long (0 : Int64)]) hC rfl (tL_faultOf n (3226943 : Int64) (0 : Int64)) nR_blind (fun U H locs hU hWm hS => nR_at hC.2.1 hU hWm hS) (va_cwS 2 hC.1.2.2.2.2 gL_texts_L_faultOf rfl rfl rfl (by decide +kernel) ⟨Nat.le_of_ble_eq_true rfl, Nat.le_of_ble_eq_true rfl⟩) rfl (Nat.le_of_ble_eq_true rfl) ⟨Nat.le_of_ble_eq_true rfl, Nat.le_of_ble_eq_true rfl⟩ dL_texts_68 (fun r68 => ?_)
              refine nr_iconst (v := -1) hC dL_texts_71 (by decide) ?_
              refine nr_icmp_ne (tgt := 86) hC dL_texts_72 (by decide) (fun _ => ?_) (fun _ => ?_)
              · refine nr_ldc2 (v := 12605) hC dL_texts_75 hmL_texts_131 ?_
                refine nr_lconst (v := 0) hC dL_texts_78 (by decide) ?_
                refine nr_callN (As := [.long (12605 : Int64), .long (0 : Int64)]) hC rfl (tL_faultOf n (12605 : Int64) (0 : Int64)) nR_blind (fun U H locs hU hWm hS => nR_at hC.2.1 hU hWm hS) (va_cwS 2 hC.1.2.2.2.2 gL_texts_L_faultOf rfl rfl rfl (by decide +kernel) ⟨Nat.le_of_ble_eq_true rfl, Nat.le_of_ble_eq_true rfl⟩) rfl (Nat.le_of_ble_eq_true rfl) ⟨Nat.le_of_ble_eq_true rfl, Nat.le_of_ble_eq_true rfl⟩ dL_texts_79 (fun r79 => ?_)
                refine nr_iconst (v := 2) hC dL_texts_82 (by decide) ?_
                refine nr_icmp_eq (tgt := 88) hC dL_texts_83 (by decide) (fun _ => ?_) (fun _ => ?_)
                · refine nr_ldc2 (v := 49) hC dL_texts_88 hmL_texts_133 ?_
                  refine nr_lconst (v := 0) hC dL_texts_91 (by decide) ?_
                  refine nr_callN (As := [.long (49 : Int64), .long (0 : Int64)]) hC rfl (tL_faultOf n (49 : Int64) (0 : Int64)) nR_blind (fun U H locs hU hWm hS => nR_at hC.2.1 hU hWm hS) (va_cwS 2 hC.1.2.2.2.2 gL_texts_L_faultOf rfl rfl rfl (by decide +kernel) ⟨Nat.le_of_ble_eq_true rfl, Nat.le_of_ble_eq_true rfl⟩) rfl (Nat.le_of_ble_eq_true rfl) ⟨Nat.le_of_ble_eq_true rfl, Nat.le_of_ble_eq_true rfl⟩ dL_texts_92 (fun r92 => ?_)
                  refine nr_iconst (v := 1) hC dL_texts_95 (by decide) ?_
                  refine nr_icmp_ne (tgt := 177) hC dL_texts_96 (by decide) (fun _ => ?_) (fun _ => ?_)
                  · refine nr_ldc2 (v := 826097467) hC dL_texts_99 hmL_texts_135 ?_
                    refine nr_lconst (v := 0) hC dL_texts_102 (by decide) ?_
                    refine nr_callN (As := [.long (826097467 : Int64), .long (0 : Int64)]) hC rfl (tL_faultOf n (826097467 : Int64) (0 : Int64)) nR_blind (fun U H locs hU hWm hS => nR_at hC.2.1 hU hWm hS) (va_cwS 2 hC.1.2.2.2.2 gL_texts_L_faultOf rfl rfl rfl (by decide +kernel) ⟨Nat.le_of_ble_eq_true rfl, Nat.le_of_ble_eq_true rfl⟩) rfl (Nat.le_of_ble_eq_true rfl) ⟨Nat.le_of_ble_eq_true rfl, Nat.le_of_ble_eq_true rfl⟩ dL_texts_103 (fun r103 => ?_)
                    refine nr_iconst (v := 4) hC dL_texts_106 (by decide) ?_
                    refine nr_icmp_ne (tgt := 177) hC dL_texts_107 (by decide) (fun _ => ?_) (fun _ => ?_)
                    · refine nr_ldc2 (v := 826097461) hC dL_texts_110 hmL_texts_137 ?_
                      refine nr_lconst (v := 0) hC dL_texts_113 (by decide) ?_
                      refine nr_callN (As := [.long (826097461 : Int64), .long (0 : Int64)]) hC rfl (tL_faultOf n (826097461 : Int64) (0 : Int64)) nR_blind (fun U H locs hU hWm hS => nR_at hC.2.1 hU hWm hS) (va_cwS 2 hC.1.2.2.2.2 gL_texts_L_faultOf rfl rfl rfl (by decide +kernel) ⟨Nat.le_of_ble_eq_true rfl, Nat.le_of_ble_eq_true rfl⟩) rfl (Nat.le_of_ble_eq_true rfl) ⟨Nat.le_of_ble_eq_true rfl, Nat.le_of_ble_eq_true rfl⟩ dL_texts_114 (fun r114 => ?_)
                      refine nr_iconst (v := 3) hC dL_texts_117 (by decide) ?_
                      refine nr_icmp_ne (tgt := 177) hC dL_texts_118 (by decide) (fun _ => ?_) (fun _ => ?_)
                      · refine nr_ldc2 (v := 63) hC dL_texts_121 hmL_texts_139 ?_
                        refine nr_lconst (v := 0) hC dL_texts_124 (by decide) ?_
                        refine nr_callN (As := [.long (63 : Int64), .long (0 : Int64)]) hC rfl (tL_faultOf n (63 : Int64) (0 : Int64)) nR_blind (fun U H locs hU hWm hS => nR_at hC.2.1 hU hWm hS) (va_cwS 2 hC.1.2.2.2.2 gL_texts_L_faultOf rfl rfl rfl (by decide +kernel) ⟨Nat.le_of_ble_eq_true rfl, Nat.le_of_ble_eq_true rfl⟩) rfl (Nat.le_of_ble_eq_true rfl) ⟨Nat.le_of_ble_eq_true rfl, Nat.le_of_ble_eq_true rfl⟩ dL_texts_125 (fun r125 => ?_)
                        refine nr_if_ne (tgt := 177) hC dL_texts_128 (by decide) (fun _ => ?_) (fun _ => ?_)
                        · refine nr_ldc2 (v := 3692170187449645876) hC dL_texts_131 hmL_texts_141 ?_
                          refine nr_ldc2 (v := 15664) hC dL_texts_134 hmL_texts_143 ?_
                          refine nr_callN (As := [.long (3692170187449645876 : Int64), .long (15664 : Int64)]) hC rfl (tL_faultOf n (3692170187449645876 : Int64) (15664 : Int64)) nR_blind (fun U H locs hU hWm hS => nR_at hC.2.1 hU hWm hS) (va_cwS 2 hC.1.2.2.2.2 gL_texts_L_faultOf rfl rfl rfl (by decide +kernel) ⟨Nat.le_of_ble_eq_true rfl, Nat.le_of_ble_eq_true rfl⟩) rfl (Nat.le_of_ble_eq_true rfl) ⟨Nat.le_of_ble_eq_true rfl, Nat.le_of_ble_eq_true rfl⟩ dL_texts_137 (fun r137 => ?_)
                          refine nr_iconst (v := -1) hC dL_texts_140 (by decide) ?_
                          refine nr_icmp_ne (tgt := 177) hC dL_texts_141 (by decide) (fun _ => ?_) (fun _ => ?_)
                          · refine nr_ldc2 (v := 14422530986360112) hC dL_texts_144 hmL_texts_145 ?_
                            refine nr_lconst (v := 0) hC dL_texts_147 (by decide) ?_
                            refine nr_callN (As := [.long (14422530986360112 : Int64), .long (0 : Int64)]) hC rfl (tL_faultOf n (14422530986360112 : Int64) (0 : Int64)) nR_blind (fun U H locs hU hWm hS => nR_at hC.2.1 hU hWm hS) (va_cwS 2 hC.1.2.2.2.2 gL_texts_L_faultOf rfl rfl rfl (by decide +kernel) ⟨Nat.le_of_ble_eq_true rfl, Nat.le_of_ble_eq_true rfl⟩) rfl (Nat.le_of_ble_eq_true rfl) ⟨Nat.le_of_ble_eq_true rfl, Nat.le_of_ble_eq_true rfl⟩ dL_texts_148 (fun r148 => ?_)
                            refine nr_iconst (v := 3) hC dL_texts_151 (by decide) ?_
                            refine nr_icmp_ne (tgt := 177) hC dL_texts_152 (by decide) (fun _ => ?_) (fun _ => ?_)
                            · refine nr_ldc2 (v := 220070361908) hC dL_texts_155 hmL_texts_147 ?_
                              refine nr_lconst (v := 0) hC dL_texts_158 (by decide) ?_
                              refine nr_callN (As := [.long (220070361908 : Int64), .long (0 : Int64)]) hC rfl (tL_faultOf n (220070361908 : Int64) (0 : Int64)) nR_blind (fun U H locs hU hWm hS => nR_at hC.2.1 hU hWm hS) (va_cwS 2 hC.1.2.2.2.2 gL_texts_L_faultOf rfl rfl rfl (by decide +kernel) ⟨Nat.le_of_ble_eq_true rfl, Nat.le_of_ble_eq_true rfl⟩) rfl (Nat.le_of_ble_eq_true rfl) ⟨Nat.le_of_ble_eq_true rfl, Nat.le_of_ble_eq_true rfl⟩ dL_texts_159 (fun r159 => ?_)
                              refine nr_iconst (v := 5) hC dL_texts_162 (by decide) ?_
                              refine nr_icmp_ne (tgt := 177) hC dL_texts_163 (by decide) (fun _ => ?_) (fun _ => ?_)
                              · refine nr_ldc2 (v := 960052529) hC dL_texts_166 hmL_texts_149 ?_
                                refine nr_lconst (v := 0) hC dL_texts_169 (by decide) ?_
                                refine nr_callN (As := [.long (960052529 : Int64), .long (0 : Int64)]) hC rfl (tL_faultOf n (960052529 : Int64) (0 : Int64)) nR_blind (fun U H locs hU hWm hS => nR_at hC.2.1 hU hWm hS) (va_cwS 2 hC.1.2.2.2.2 gL_texts_L_faultOf rfl rfl rfl (by decide +kernel) ⟨Nat.le_of_ble_eq_true rfl, Nat.le_of_ble_eq_true rfl⟩) rfl (Nat.le_of_ble_eq_true rfl) ⟨Nat.le_of_ble_eq_true rfl, Nat.le_of_ble_eq_true rfl⟩ dL_texts_170 (fun r170 => ?_)
                                refine nr_iconst (v := 1) hC dL_texts_173 (by decide) ?_
                                refine nr_icmp_eq (tgt := 179) hC dL_texts_174 (by decide) (fun _ => ?_) (fun _ => ?_)
                                · refine nr_new hC hiL_texts_X5 hmL_texts_cl hmL_texts_in hmL_texts_ini (cwI 0 hC.1.2.2.2.2 gL_texts_X5_init rfl rfl rfl (hC.1.2.2.2.2 _ hmL_texts_ini) (hC.1.2.2.2.2 _ hmL_texts_ml) (hC.1.2.2.2.2 _ hmL_texts_im) rfl (by decide +kernel) ⟨Nat.le_of_ble_eq_true rfl, Nat.le_of_ble_eq_true rfl⟩) (Nat.le_of_ble_eq_true rfl) (Nat.le_of_ble_eq_true rfl) (Nat.le_of_ble_eq_true rfl) dL_texts_179 dL_texts_182 dL_texts_183 (fun ad => ?_)
                                  refine nr_astore_n (lv' := [(0, .ref (ad 228))]) hC dL_texts_186 rfl (by decide) rfl ?_
                                  refine nr_aload_n hC dL_texts_187 rfl 0 rfl ?_
                                  refine nr_bipush (v := 9) hC dL_texts_188 (by decide) ?_
                                  refine nr_callVi (As := [.int (9 : Int32)]) hC rfl (fun hI => tX5_addFlat (t1 := t1) (t2 := t2) hI n (9 : Int32) mz) (cwV 1 hC.1.2.2.2.2 gL_texts_X5_addFlat rfl rfl rfl (by decide +kernel) ⟨Nat.le_of_ble_eq_true rfl, Nat.le_of_ble_eq_true rfl⟩) rfl (Nat.le_of_ble_eq_true rfl) ⟨Nat.le_of_ble_eq_true rfl, Nat.le_of_ble_eq_true rfl⟩ dL_texts_190 (fun r190 m190 => ?_)
                                  refine nr_if_ne (tgt := 244) hC dL_texts_193 (by decide) (fun _ => ?_) (fun _ => ?_)
                                  · refine nr_aload_n hC dL_texts_196 rfl 0 rfl ?_
                                    refine nr_iconst (v := 0) hC dL_texts_197 (by decide) ?_
                                    refine nr_iconst (v := 2) hC dL_texts_198 (by decide) ?_
                                    refine nr_callVi (As := [.int (0 : Int32), .int (2 : Int32)]) hC rfl (fun hI => tX5_addDevice (t1 := t1) (t2 := t2) hI n (0 : Int32) (2 : Int32) m190) (cwV 2 hC.1.2.2.2.2 gL_texts_X5_addDevice rfl rfl rfl (by decide +kernel) ⟨Nat.le_of_ble_eq_true rfl, Nat.le_of_ble_eq_true rfl⟩) rfl (Nat.le_of_ble_eq_true rfl) ⟨Nat.le_of_ble_eq_true rfl, Nat.le_of_ble_eq_true rfl⟩ dL_texts_199 (fun r199 m199 => ?_)
                                    refine nr_if_ne (tgt := 244) hC dL_texts_202 (by decide) (fun _ => ?_) (fun _ => ?_)
                                    · refine nr_aload_n hC dL_texts_205 rfl 0 rfl ?_
                                      refine nr_iconst (v := 0) hC dL_texts_206 (by decide) ?_
                                      refine nr_iconst (v := 3) hC dL_texts_207 (by decide) ?_
                                      refine nr_callVi (As := [.int (0 : Int32), .int (3 : Int32)]) hC rfl (fun hI => tX5_addDevice (t1 := t1) (t2 := t2) hI n (0 : Int32) (3 : Int32) m199) (cwV 2 hC.1.2.2.2.2 gL_texts_X5_addDevice rfl rfl rfl (by decide +kernel) ⟨Nat.le_of_ble_eq_true rfl, Nat.le_of_ble_eq_true rfl⟩) rfl (Nat.le_of_ble_eq_true rfl) ⟨Nat.le_of_ble_eq_true rfl, Nat.le_of_ble_eq_true rfl⟩ dL_texts_208 (fun r208 m208 => ?_)
                                      refine nr_iconst (v := 1) hC dL_texts_211 (by decide) ?_
                                      refine nr_icmp_ne (tgt := 244) hC dL_texts_212 (by decide) (fun _ => ?_) (fun _ => ?_)
                                      · refine nr_aload_n hC dL_texts_215 rfl 0 rfl ?_
                                        refine nr_iconst (v := 0) hC dL_texts_216 (by decide) ?_
                                        refine nr_bipush (v := 50) hC dL_texts_217 (by decide) ?_
                                        refine nr_callVi (As := [.int (0 : Int32), .int (50 : Int32)]) hC rfl (fun hI => tX5_read (t1 := t1) (t2 := t2) hI n (0 : Int32) (50 : Int32) m208) (cwV 2 hC.1.2.2.2.2 gL_texts_X5_read rfl rfl rfl (by decide +kernel) ⟨Nat.le_of_ble_eq_true rfl, Nat.le_of_ble_eq_true rfl⟩) rfl (Nat.le_of_ble_eq_true rfl) ⟨Nat.le_of_ble_eq_true rfl, Nat.le_of_ble_eq_true rfl⟩ dL_texts_219 (fun r219 m219 => ?_)
                                        refine nr_bipush (v := 100) hC dL_texts_222 (by decide) ?_
                                        refine nr_icmp_ne (tgt := 244) hC dL_texts_224 (by decide) (fun _ => ?_) (fun _ => ?_)
                                        · refine nr_aload_n hC dL_texts_227 rfl 0 rfl ?_
                                          refine nr_callVi (As := []) hC rfl (fun hI => tX5_close (t1 := t1) (t2 := t2) hI n m219) (cwV 0 hC.1.2.2.2.2 gL_texts_X5_close rfl rfl rfl (by decide +kernel) ⟨Nat.le_of_ble_eq_true rfl, Nat.le_of_ble_eq_true rfl⟩) rfl (Nat.le_of_ble_eq_true rfl) ⟨Nat.le_of_ble_eq_true rfl, Nat.le_of_ble_eq_true rfl⟩ dL_texts_228 (fun r228 m228 => ?_)
                                          refine nr_if_ne (tgt := 244) hC dL_texts_231 (by decide) (fun _ => ?_) (fun _ => ?_)
                                          · refine nr_aload_n hC dL_texts_234 rfl 0 rfl ?_
                                            refine nr_bipush (v := 13) hC dL_texts_235 (by decide) ?_
                                            refine nr_callVi (As := [.int (13 : Int32)]) hC rfl (fun hI => tX5_count (t1 := t1) (t2 := t2) hI n (13 : Int32) m228) (cwV 1 hC.1.2.2.2.2 gL_texts_X5_count rfl rfl rfl (by decide +kernel) ⟨Nat.le_of_ble_eq_true rfl, Nat.le_of_ble_eq_true rfl⟩) rfl (Nat.le_of_ble_eq_true rfl) ⟨Nat.le_of_ble_eq_true rfl, Nat.le_of_ble_eq_true rfl⟩ dL_texts_237 (fun r237 m237 => ?_)
                                            refine nr_iconst (v := 4) hC dL_texts_240 (by decide) ?_
                                            refine nr_icmp_eq (tgt := 246) hC dL_texts_241 (by decide) (fun _ => ?_) (fun _ => ?_)
                                            · refine nr_aload_n hC dL_texts_246 rfl 0 rfl ?_
                                              refine nr_ldc2 (v := 3475991907811278129) hC dL_texts_247 hmL_texts_151 ?_
                                              refine nr_callSi (As := [.ref (ad 228), .long (3475991907811278129 : Int64)]) hC rfl (fun hI => tL_types (t1 := t1) (t2 := t2) hI n (3475991907811278129 : Int64) m237) (va_cwS 2 hC.1.2.2.2.2 gL_texts_L_types rfl rfl rfl (by decide +kernel) ⟨Nat.le_of_ble_eq_true rfl, Nat.le_of_ble_eq_true rfl⟩) rfl (Nat.le_of_ble_eq_true rfl) ⟨Nat.le_of_ble_eq_true rfl, Nat.le_of_ble_eq_true rfl⟩ dL_texts_250 (fun r250 m250 => ?_)
                                              refine nr_if_eq (tgt := 310) hC dL_texts_253 (by decide) (fun _ => ?_) (fun _ => ?_)
                                              · refine nr_iconst (v := 0) hC dL_texts_310 (by decide) ?_
                                                exact nr_iretz hC hr (Nat.le_of_ble_eq_true rfl) (Nat.le_of_ble_eq_true rfl) dL_texts_311 rfl
                                              · refine nr_aload_n hC dL_texts_256 rfl 0 rfl ?_
                                                refine nr_callVi (As := []) hC rfl (fun hI => tX5_readAll (t1 := t1) (t2 := t2) hI n m250) (cwV 0 hC.1.2.2.2.2 gL_texts_X5_readAll rfl rfl rfl (by decide +kernel) ⟨Nat.le_of_ble_eq_true rfl, Nat.le_of_ble_eq_true rfl⟩) rfl (Nat.le_of_ble_eq_true rfl) ⟨Nat.le_of_ble_eq_true rfl, Nat.le_of_ble_eq_true rfl⟩ dL_texts_257 (fun r257 m257 => ?_)
                                                refine nr_iconst (v := -1) hC dL_texts_260 (by decide) ?_
                                                refine nr_icmp_ne (tgt := 310) hC dL_texts_261 (by decide) (fun _ => ?_) (fun _ => ?_)
                                                · refine nr_aload_n hC dL_texts_264 rfl 0 rfl ?_
                                                  refine nr_callVi (As := []) hC rfl (fun hI => tX5_clearText (t1 := t1) (t2 := t2) hI n m257) (cwV 0 hC.1.2.2.2.2 gL_texts_X5_clearText rfl rfl rfl (by decide +kernel) ⟨Nat.le_of_ble_eq_true rfl, Nat.le_of_ble_eq_true rfl⟩) rfl (Nat.le_of_ble_eq_true rfl) ⟨Nat.le_of_ble_eq_true rfl, Nat.le_of_ble_eq_true rfl⟩ dL_texts_265 (fun r265 m265 => ?_)
                                                  refine nr_bipush (v := 8) hC dL_texts_268 (by decide) ?_
                                                  refine nr_icmp_ne (tgt := 310) hC dL_texts_270 (by decide) (fun _ => ?_) (fun _ => ?_)
                                                  · refine nr_aload_n hC dL_texts_273 rfl 0 rfl ?_
                                                    refine nr_ldc2 (v := 3548061604882756665) hC dL_texts_274 hmL_texts_156 ?_
                                                    refine nr_callSi (As := [.ref (ad 228), .long (3548061604882756665 : Int64)]) hC rfl (fun hI => tL_types (t1 := t1) (t2 := t2) hI n (3548061604882756665 : Int64) m265) (va_cwS 2 hC.1.2.2.2.2 gL_texts_L_types rfl rfl rfl (by decide +kernel) ⟨Nat.le_of_ble_eq_true rfl, Nat.le_of_ble_eq_true rfl⟩) rfl (Nat.le_of_ble_eq_true rfl) ⟨Nat.le_of_ble_eq_true rfl, Nat.le_of_ble_eq_true rfl⟩ dL_texts_277 (fun r277 m277 => ?_)
                                                    refine nr_if_eq (tgt := 310) hC dL_texts_280 (by decide) (fun _ => ?_) (fun _ => ?_)
                                                    · refine nr_iconst (v := 0) hC dL_texts_310 (by decide) ?_
                                                      exact nr_iretz hC hr (Nat.le_of_ble_eq_true rfl) (Nat.le_of_ble_eq_true rfl) dL_texts_311 rfl
                                                    · refine nr_aload_n hC dL_texts_283 rfl 0 rfl ?_
                                                      refine nr_callVi (As := []) hC rfl (fun hI => tX5_readAll (t1 := t1) (t2 := t2) hI n m277) (cwV 0 hC.1.2.2.2.2 gL_texts_X5_readAll rfl rfl rfl (by decide +kernel) ⟨Nat.le_of_ble_eq_true rfl, Nat.le_of_ble_eq_true rfl⟩) rfl (Nat.le_of_ble_eq_true rfl) ⟨Nat.le_of_ble_eq_true rfl, Nat.le_of_ble_eq_true rfl⟩ dL_texts_284 (fun r284 m284 => ?_)
                                                      refine nr_bipush (v := -4) hC dL_texts_287 (by decide) ?_
                                                      refine nr_icmp_ne (tgt := 310) hC dL_texts_289 (by decide) (fun _ => ?_) (fun _ => ?_)
                                                      · refine nr_aload_n hC dL_texts_292 rfl 0 rfl ?_
                                                        refine nr_callVi (As := []) hC rfl (fun hI => tX5_clearText (t1 := t1) (t2 := t2) hI n m284) (cwV 0 hC.1.2.2.2.2 gL_texts_X5_clearText rfl rfl rfl (by decide +kernel) ⟨Nat.le_of_ble_eq_true rfl, Nat.le_of_ble_eq_true rfl⟩) rfl (Nat.le_of_ble_eq_true rfl) ⟨Nat.le_of_ble_eq_true rfl, Nat.le_of_ble_eq_true rfl⟩ dL_texts_293 (fun r293 m293 => ?_)
                                                        refine nr_bipush (v := 8) hC dL_texts_296 (by decide) ?_
                                                        refine nr_icmp_ne (tgt := 310) hC dL_texts_298 (by decide) (fun _ => ?_) (fun _ => ?_)
                                                        · refine nr_aload_n hC dL_texts_301 rfl 0 rfl ?_
                                                          refine nr_iconst (v := 1) hC dL_texts_302 (by decide) ?_
                                                          refine nr_iconst (v := 4) hC dL_texts_303 (by decide) ?_
                                                          refine nr_callVi (As := [.int (1 : Int32), .int (4 : Int32)]) hC rfl (fun hI => tX5_device (t1 := t1) (t2 := t2) hI n (1 : Int32) (4 : Int32) m293) (cwV 2 hC.1.2.2.2.2 gL_texts_X5_device rfl rfl rfl (by decide +kernel) ⟨Nat.le_of_ble_eq_true rfl, Nat.le_of_ble_eq_true rfl⟩) rfl (Nat.le_of_ble_eq_true rfl) ⟨Nat.le_of_ble_eq_true rfl, Nat.le_of_ble_eq_true rfl⟩ dL_texts_304 (fun r304 m304 => ?_)
                                                          refine nr_if_eq (tgt := 312) hC dL_texts_307 (by decide) (fun _ => ?_) (fun _ => ?_)
                                                          · refine nr_aload_n hC dL_texts_312 rfl 0 rfl ?_
                                                            refine nr_ldc2 (v := 3548061604882757168) hC dL_texts_313 hmL_texts_158 ?_
                                                            refine nr_callSi (As := [.ref (ad 228), .long (3548061604882757168 : Int64)]) hC rfl (fun hI => tL_types (t1 := t1) (t2 := t2) hI n (3548061604882757168 : Int64) m304) (va_cwS 2 hC.1.2.2.2.2 gL_texts_L_types rfl rfl rfl (by decide +kernel) ⟨Nat.le_of_ble_eq_true rfl, Nat.le_of_ble_eq_true rfl⟩) rfl (Nat.le_of_ble_eq_true rfl) ⟨Nat.le_of_ble_eq_true rfl, Nat.le_of_ble_eq_true rfl⟩ dL_texts_316 (fun r316 m316 => ?_)
                                                            refine nr_if_eq (tgt := 409) hC dL_texts_319 (by decide) (fun _ => ?_) (fun _ => ?_)
                                                            · refine nr_iconst (v := 0) hC dL_texts_409 (by decide) ?_
                                                              exact nr_iretz hC hr (Nat.le_of_ble_eq_true rfl) (Nat.le_of_ble_eq_true rfl) dL_texts_410 rfl
                                                            · refine nr_aload_n hC dL_texts_322 rfl 0 rfl ?_
                                                              refine nr_ldc2 (v := 993082677) hC dL_texts_323 hmL_texts_160 ?_
                                                              refine nr_callSi (As := [.ref (ad 228), .long (993082677 : Int64)]) hC rfl (fun hI => tL_types (t1 := t1) (t2 := t2) hI n (993082677 : Int64) m316) (va_cwS 2 hC.1.2.2.2.2 gL_texts_L_types rfl rfl rfl (by decide +kernel) ⟨Nat.le_of_ble_eq_true rfl, Nat.le_of_ble_eq_true rfl⟩) rfl (Nat.le_of_ble_eq_true rfl) ⟨Nat.le_of_ble_eq_true rfl, Nat.le_of_ble_eq_true rfl⟩ dL_texts_326 (fun r326 m326 => ?_)
                                                              refine nr_if_eq (tgt := 409) hC dL_texts_329 (by decide) (fun _ => ?_) (fun _ => ?_)
                                                              · refine nr_iconst (v := 0) hC dL_texts_409 (by decide) ?_
                                                                exact nr_iretz hC hr (Nat.le_of_ble_eq_true rfl) (Nat.le_of_ble_eq_true rfl) dL_texts_410 rfl
                                                              · refine nr_aload_n hC dL_texts_332 rfl 0 rfl ?_
                                                                refine nr_callVi (As := []) hC rfl (fun hI => tX5_readAll (t1 := t1) (t2 := t2) hI n m326) (cwV 0 hC.1.2.2.2.2 gL_texts_X5_readAll rfl rfl rfl (by decide +kernel) ⟨Nat.le_of_ble_eq_true rfl, Nat.le_of_ble_eq_true rfl⟩) rfl (Nat.le_of_ble_eq_true rfl) ⟨Nat.le_of_ble_eq_true rfl, Nat.le_of_ble_eq_true rfl⟩ dL_texts_333 (fun r333 m333 => ?_)
                                                                refine nr_iconst (v := 3) hC dL_texts_336 (by decide) ?_
                                                                refine nr_icmp_ne (tgt := 409) hC dL_texts_337 (by decide) (fun _ => ?_) (fun _ => ?_)
                                                                · refine nr_aload_n hC dL_texts_340 rfl 0 rfl ?_
                                                                  refine nr_iconst (v := 1) hC dL_texts_341 (by decide) ?_
                                                                  refine nr_iconst (v := 4) hC dL_texts_342 (by decide) ?_
                                                                  refine nr_callVi (As := [.int (1 : Int32), .int (4 : Int32)]) hC rfl (fun hI => tX5_device (t1 := t1) (t2 := t2) hI n (1 : Int32) (4 : Int32) m333) (cwV 2 hC.1.2.2.2.2 gL_texts_X5_device rfl rfl rfl (by decide +kernel) ⟨Nat.le_of_ble_eq_true rfl, Nat.le_of_ble_eq_true rfl⟩) rfl (Nat.le_of_ble_eq_true rfl) ⟨Nat.le_of_ble_eq_true rfl, Nat.le_of_ble_eq_true rfl⟩ dL_texts_343 (fun r343 m343 => ?_)
                                                                  refine nr_if_ne (tgt := 409) hC dL_texts_346 (by decide) (fun _ => ?_) (fun _ => ?_)
                                                                  · refine nr_aload_n hC dL_texts_349 rfl 0 rfl ?_
                                                                    refine nr_iconst (v := 1) hC dL_texts_350 (by decide) ?_
                                                                    refine nr_iconst (v := 3) hC dL_texts_351 (by decide) ?_
                                                                    refine nr_callVi (As := [.int (1 : Int32), .int (3 : Int32)]) hC rfl (fun hI => tX5_device (t1 := t1) (t2 := t2) hI n (1 : Int32) (3 : Int32) m343) (cwV 2 hC.1.2.2.2.2 gL_texts_X5_device rfl rfl rfl (by decide +kernel) ⟨Nat.le_of_ble_eq_true rfl, Nat.le_of_ble_eq_true rfl⟩) rfl (Nat.le_of_ble_eq_true rfl) ⟨Nat.le_of_ble_eq_true rfl, Nat.le_of_ble_eq_true rfl⟩ dL_texts_352 (fun r352 m352 => ?_)
                                                                    refine nr_iconst (v := 5) hC dL_texts_355 (by decide) ?_
                                                                    refine nr_icmp_ne (tgt := 409) hC dL_texts_356 (by decide) (fun _ => ?_) (fun _ => ?_)
                                                                    · refine nr_aload_n hC dL_texts_359 rfl 0 rfl ?_
                                                                      refine nr_iconst (v := 1) hC dL_texts_360 (by decide) ?_
                                                                      refine nr_iconst (v := 5) hC dL_texts_361 (by decide) ?_
                                                                      refine nr_callVi (As := [.int (1 : Int32), .int (5 : Int32)]) hC rfl (fun hI => tX5_device (t1 := t1) (t2 := t2) hI n (1 : Int32) (5 : Int32) m352) (cwV 2 hC.1.2.2.2.2 gL_texts_X5_device rfl rfl rfl (by decide +kernel) ⟨Nat.le_of_ble_eq_true rfl, Nat.le_of_ble_eq_true rfl⟩) rfl (Nat.le_of_ble_eq_true rfl) ⟨Nat.le_of_ble_eq_true rfl, Nat.le_of_ble_eq_true rfl⟩ dL_texts_362 (fun r362 m362 => ?_)
                                                                      refine nr_bipush (v := 15) hC dL_texts_365 (by decide) ?_
                                                                      refine nr_icmp_ne (tgt := 409) hC dL_texts_367 (by decide) (fun _ => ?_) (fun _ => ?_)
                                                                      · refine nr_aload_n hC dL_texts_370 rfl 0 rfl ?_
                                                                        refine nr_iconst (v := 0) hC dL_texts_371 (by decide) ?_
                                                                        refine nr_iconst (v := 5) hC dL_texts_372 (by decide) ?_
                                                                        refine nr_callVi (As := [.int (0 : Int32), .int (5 : Int32)]) hC rfl (fun hI => tX5_device (t1 := t1) (t2 := t2) hI n (0 : Int32) (5 : Int32) m362) (cwV 2 hC.1.2.2.2.2 gL_texts_X5_device rfl rfl rfl (by decide +kernel) ⟨Nat.le_of_ble_eq_true rfl, Nat.le_of_ble_eq_true rfl⟩) rfl (Nat.le_of_ble_eq_true rfl) ⟨Nat.le_of_ble_eq_true rfl, Nat.le_of_ble_eq_true rfl⟩ dL_texts_373 (fun r373 m373 => ?_)
                                                                        refine nr_bipush (v := 20) hC dL_texts_376 (by decide) ?_
                                                                        refine nr_icmp_ne (tgt := 409) hC dL_texts_378 (by decide) (fun _ => ?_) (fun _ => ?_)
                                                                        · refine nr_aload_n hC dL_texts_381 rfl 0 rfl ?_
                                                                          refine nr_callVi (As := []) hC rfl (fun hI => tX5_clearText (t1 := t1) (t2 := t2) hI n m373) (cwV 0 hC.1.2.2.2.2 gL_texts_X5_clearText rfl rfl rfl (by decide +kernel) ⟨Nat.le_of_ble_eq_true rfl, Nat.le_of_ble_eq_true rfl⟩) rfl (Nat.le_of_ble_eq_true rfl) ⟨Nat.le_of_ble_eq_true rfl, Nat.le_of_ble_eq_true rfl⟩ dL_texts_382 (fun r382 m382 => ?_)
                                                                          refine nr_bipush (v := 12) hC dL_texts_385 (by decide) ?_
                                                                          refine nr_icmp_ne (tgt := 409) hC dL_texts_387 (by decide) (fun _ => ?_) (fun _ => ?_)
                                                                          · refine nr_aload_n hC dL_texts_390 rfl 0 rfl ?_
                                                                            refine nr_callVi (As := []) hC rfl (fun hI => tX5_undo (t1 := t1) (t2 := t2) hI n m382) (cwV 0 hC.1.2.2.2.2 gL_texts_X5_undo rfl rfl rfl (by decide +kernel) ⟨Nat.le_of_ble_eq_true rfl, Nat.le_of_ble_eq_true rfl⟩) rfl (Nat.le_of_ble_eq_true rfl) ⟨Nat.le_of_ble_eq_true rfl, Nat.le_of_ble_eq_true rfl⟩ dL_texts_391 (fun r391 m391 => ?_)
                                                                            refine nr_iconst (v := 3) hC dL_texts_394 (by decide) ?_
                                                                            refine nr_icmp_ne (tgt := 409) hC dL_texts_395 (by decide) (fun _ => ?_) (fun _ => ?_)
                                                                            · refine nr_aload_n hC dL_texts_398 rfl 0 rfl ?_
                                                                              refine nr_iconst (v := 0) hC dL_texts_399 (by decide) ?_
                                                                              refine nr_iconst (v := 3) hC dL_texts_400 (by decide) ?_
                                                                              refine nr_callVi (As := [.int (0 : Int32), .int (3 : Int32)]) hC rfl (fun hI => tX5_device (t1 := t1) (t2 := t2) hI n (0 : Int32) (3 : Int32) m391) (cwV 2 hC.1.2.2.2.2 gL_texts_X5_device rfl rfl rfl (by decide +kernel) ⟨Nat.le_of_ble_eq_true rfl, Nat.le_of_ble_eq_true rfl⟩) rfl (Nat.le_of_ble_eq_true rfl) ⟨Nat.le_of_ble_eq_true rfl, Nat.le_of_ble_eq_true rfl⟩ dL_texts_401 (fun r401 m401 => ?_)
                                                                              refine nr_bipush (v := 50) hC dL_texts_404 (by decide) ?_
                                                                              refine nr_icmp_eq (tgt := 411) hC dL_texts_406 (by decide) (fun _ => ?_) (fun _ => ?_)
                                                                              · refine nr_iconst (v := 0) hC dL_texts_411 (by decide) ?_
                                                                                refine nr_istore_n (lv' := [(1, .int (0 : Int32)), (0, .ref (ad 228))]) hC dL_texts_412 rfl (by decide) rfl ?_
                                                                                refine nr_sub (lv' := [(1, .int (0 : Int32)), (0, .ref (ad 228))]) [0, 1] rfl ?_
                                                                                refine L413 ad _ (fun x1_413 m413 => ?_) _ _ _
                                                                                refine nr_aload_n hC dL_texts_439 rfl 1 rfl ?_
                                                                                refine nr_bipush (v := 49) hC dL_texts_440 (by decide) ?_
                                                                                refine nr_callVi (As := [.int (49 : Int32)]) hC rfl (fun hI => tX5_type (t1 := t1) (t2 := t2) hI n (49 : Int32) m413.1) (cwV 1 hC.1.2.2.2.2 gL_texts_X5_type rfl rfl rfl (by decide +kernel) ⟨Nat.le_of_ble_eq_true rfl, Nat.le_of_ble_eq_true rfl⟩) rfl (Nat.le_of_ble_eq_true rfl) ⟨Nat.le_of_ble_eq_true rfl, Nat.le_of_ble_eq_true rfl⟩ dL_texts_442 (fun r442 m442 => ?_)
                                                                                refine nr_bipush (v := -3) hC dL_texts_445 (by decide) ?_
                                                                                refine nr_icmp_ne (tgt := 472) hC dL_texts_447 (by decide) (fun _ => ?_) (fun _ => ?_)
                                                                                · refine nr_aload_n hC dL_texts_450 rfl 1 rfl ?_
                                                                                  refine nr_callVi (As := []) hC rfl (fun hI => tX5_readAll (t1 := t1) (t2 := t2) hI n m442) (cwV 0 hC.1.2.2.2.2 gL_texts_X5_readAll rfl rfl rfl (by decide +kernel) ⟨Nat.le_of_ble_eq_true rfl, Nat.le_of_ble_eq_true rfl⟩) rfl (Nat.le_of_ble_eq_true rfl) ⟨Nat.le_of_ble_eq_true rfl, Nat.le_of_ble_eq_true rfl⟩ dL_texts_451 (fun r451 m451 => ?_)
                                                                                  refine nr_bipush (v := -102) hC dL_texts_454 (by decide) ?_
                                                                                  refine nr_icmp_ne (tgt := 472) hC dL_texts_456 (by decide) (fun _ => ?_) (fun _ => ?_)
                                                                                  · refine nr_aload_n hC dL_texts_459 rfl 1 rfl ?_
                                                                                    refine nr_callVi (As := []) hC rfl (fun hI => tX5_clearText (t1 := t1) (t2 := t2) hI n m451) (cwV 0 hC.1.2.2.2.2 gL_texts_X5_clearText rfl rfl rfl (by decide +kernel) ⟨Nat.le_of_ble_eq_true rfl, Nat.le_of_ble_eq_true rfl⟩) rfl (Nat.le_of_ble_eq_true rfl) ⟨Nat.le_of_ble_eq_true rfl, Nat.le_of_ble_eq_true rfl⟩ dL_texts_460 (fun r460 m460 => ?_)
                                                                                    refine nr_bipush (v := 60) hC dL_texts_463 (by decide) ?_
                                                                                    refine nr_icmp_ne (tgt := 472) hC dL_texts_465 (by decide) (fun _ => ?_) (fun _ => ?_)
                                                                                    · refine nr_iconst (v := 1) hC dL_texts_468 (by decide) ?_
                                                                                      refine nr_goto (tgt := 473) hC dL_texts_469 (by decide) ?_
                                                                                      exact nr_iretz hC hr (Nat.le_of_ble_eq_true rfl) (Nat.le_of_ble_eq_true rfl) dL_texts_473 rfl
                                                                                    · refine nr_iconst (v := 0) hC dL_texts_472 (by decide) ?_
                                                                                      exact nr_iretz hC hr (Nat.le_of_ble_eq_true rfl) (Nat.le_of_ble_eq_true rfl) dL_texts_473 rfl
                                                                                  · refine nr_iconst (v := 0) hC dL_texts_472 (by decide) ?_
                                                                                    exact nr_iretz hC hr (Nat.le_of_ble_eq_true rfl) (Nat.le_of_ble_eq_true rfl) dL_texts_473 rfl
                                                                                · refine nr_iconst (v := 0) hC dL_texts_472 (by decide) ?_
                                                                                  exact nr_iretz hC hr (Nat.le_of_ble_eq_true rfl) (Nat.le_of_ble_eq_true rfl) dL_texts_473 rfl
                                                                              · refine nr_iconst (v := 0) hC dL_texts_409 (by decide) ?_
                                                                                exact nr_iretz hC hr (Nat.le_of_ble_eq_true rfl) (Nat.le_of_ble_eq_true rfl) dL_texts_410 rfl
                                                                            · refine nr_iconst (v := 0) hC dL_texts_409 (by decide) ?_
                                                                              exact nr_iretz hC hr (Nat.le_of_ble_eq_true rfl) (Nat.le_of_ble_eq_true rfl) dL_texts_410 rfl
                                                                          · refine nr_iconst (v := 0) hC dL_texts_409 (by decide) ?_
                                                                            exact nr_iretz hC hr (Nat.le_of_ble_eq_true rfl) (Nat.le_of_ble_eq_true rfl) dL_texts_410 rfl
                                                                        · refine nr_iconst (v := 0) hC dL_texts_409 (by decide) ?_
                                                                          exact nr_iretz hC hr (Nat.le_of_ble_eq_true rfl) (Nat.le_of_ble_eq_true rfl) dL_texts_410 rfl
                                                                      · refine nr_iconst (v := 0) hC dL_texts_409 (by decide) ?_
                                                                        exact nr_iretz hC hr (Nat.le_of_ble_eq_true rfl) (Nat.le_of_ble_eq_true rfl) dL_texts_410 rfl
                                                                    · refine nr_iconst (v := 0) hC dL_texts_409 (by decide) ?_
                                                                      exact nr_iretz hC hr (Nat.le_of_ble_eq_true rfl) (Nat.le_of_ble_eq_true rfl) dL_texts_410 rfl
                                                                  · refine nr_iconst (v := 0) hC dL_texts_409 (by decide) ?_
                                                                    exact nr_iretz hC hr (Nat.le_of_ble_eq_true rfl) (Nat.le_of_ble_eq_true rfl) dL_texts_410 rfl
                                                                · refine nr_iconst (v := 0) hC dL_texts_409 (by decide) ?_
                                                                  exact nr_iretz hC hr (Nat.le_of_ble_eq_true rfl) (Nat.le_of_ble_eq_true rfl) dL_texts_410 rfl
                                                          · refine nr_iconst (v := 0) hC dL_texts_310 (by decide) ?_
                                                            exact nr_iretz hC hr (Nat.le_of_ble_eq_true rfl) (Nat.le_of_ble_eq_true rfl) dL_texts_311 rfl
                                                        · refine nr_iconst (v := 0) hC dL_texts_310 (by decide) ?_
                                                          exact nr_iretz hC hr (Nat.le_of_ble_eq_true rfl) (Nat.le_of_ble_eq_true rfl) dL_texts_311 rfl
                                                      · refine nr_iconst (v := 0) hC dL_texts_310 (by decide) ?_
                                                        exact nr_iretz hC hr (Nat.le_of_ble_eq_true rfl) (Nat.le_of_ble_eq_true rfl) dL_texts_311 rfl
                                                  · refine nr_iconst (v := 0) hC dL_texts_310 (by decide) ?_
                                                    exact nr_iretz hC hr (Nat.le_of_ble_eq_true rfl) (Nat.le_of_ble_eq_true rfl) dL_texts_311 rfl
                                                · refine nr_iconst (v := 0) hC dL_texts_310 (by decide) ?_
                                                  exact nr_iretz hC hr (Nat.le_of_ble_eq_true rfl) (Nat.le_of_ble_eq_true rfl) dL_texts_311 rfl
                                            · refine nr_iconst (v := 0) hC dL_texts_244 (by decide) ?_
                                              exact nr_iretz hC hr (Nat.le_of_ble_eq_true rfl) (Nat.le_of_ble_eq_true rfl) dL_texts_245 rfl
                                          · refine nr_iconst (v := 0) hC dL_texts_244 (by decide) ?_
                                            exact nr_iretz hC hr (Nat.le_of_ble_eq_true rfl) (Nat.le_of_ble_eq_true rfl) dL_texts_245 rfl
                                        · refine nr_iconst (v := 0) hC dL_texts_244 (by decide) ?_
                                          exact nr_iretz hC hr (Nat.le_of_ble_eq_true rfl) (Nat.le_of_ble_eq_true rfl) dL_texts_245 rfl
                                      · refine nr_iconst (v := 0) hC dL_texts_244 (by decide) ?_
                                        exact nr_iretz hC hr (Nat.le_of_ble_eq_true rfl) (Nat.le_of_ble_eq_true rfl) dL_texts_245 rfl
                                    · refine nr_iconst (v := 0) hC dL_texts_244 (by decide) ?_
                                      exact nr_iretz hC hr (Nat.le_of_ble_eq_true rfl) (Nat.le_of_ble_eq_true rfl) dL_texts_245 rfl
                                  · refine nr_iconst (v := 0) hC dL_texts_244 (by decide) ?_
                                    exact nr_iretz hC hr (Nat.le_of_ble_eq_true rfl) (Nat.le_of_ble_eq_true rfl) dL_texts_245 rfl
                                · refine nr_iconst (v := 0) hC dL_texts_177 (by decide) ?_
                                  exact nr_iretz hC hr (Nat.le_of_ble_eq_true rfl) (Nat.le_of_ble_eq_true rfl) dL_texts_178 rfl
                              · refine nr_iconst (v := 0) hC dL_texts_177 (by decide) ?_
                                exact nr_iretz hC hr (Nat.le_of_ble_eq_true rfl) (Nat.le_of_ble_eq_true rfl) dL_texts_178 rfl
                            · refine nr_iconst (v := 0) hC dL_texts_177 (by decide) ?_
                              exact nr_iretz hC hr (Nat.le_of_ble_eq_true rfl) (Nat.le_of_ble_eq_true rfl) dL_texts_178 rfl
                          · refine nr_iconst (v := 0) hC dL_texts_177 (by decide) ?_
                            exact nr_iretz hC hr (Nat.le_of_ble_eq_true rfl) (Nat.le_of_ble_eq_true rfl) dL_texts_178 rfl
                        · refine nr_iconst (v := 0) hC dL_texts_177 (by decide) ?_
                          exact nr_iretz hC hr (Nat.le_of_ble_eq_true rfl) (Nat.le_of_ble_eq_true rfl) dL_texts_178 rfl
                      · refine nr_iconst (v := 0) hC dL_texts_177 (by decide) ?_
                        exact nr_iretz hC hr (Nat.le_of_ble_eq_true rfl) (Nat.le_of_ble_eq_true rfl) dL_texts_178 rfl
                    · refine nr_iconst (v := 0) hC dL_texts_177 (by decide) ?_
                      exact nr_iretz hC hr (Nat.le_of_ble_eq_true rfl) (Nat.le_of_ble_eq_true rfl) dL_texts_178 rfl
                  · refine nr_iconst (v := 0) hC dL_texts_177 (by decide) ?_
                    exact nr_iretz hC hr (Nat.le_of_ble_eq_true rfl) (Nat.le_of_ble_eq_true rfl) dL_texts_178 rfl
                · refine nr_iconst (v := 0) hC dL_texts_86 (by decide) ?_
                  exact nr_iretz hC hr (Nat.le_of_ble_eq_true rfl) (Nat.le_of_ble_eq_true rfl) dL_texts_87 rfl
              · refine nr_iconst (v := 0) hC dL_texts_86 (by decide) ?_
                exact nr_iretz hC hr (Nat.le_of_ble_eq_true rfl) (Nat.le_of_ble_eq_true rfl) dL_texts_87 rfl
            · refine nr_iconst (v := 0) hC dL_texts_86 (by decide) ?_
              exact nr_iretz hC hr (Nat.le_of_ble_eq_true rfl) (Nat.le_of_ble_eq_true rfl) dL_texts_87 rfl
          · refine nr_iconst (v := 0) hC dL_texts_86 (by decide) ?_
            exact nr_iretz hC hr (Nat.le_of_ble_eq_true rfl) (Nat.le_of_ble_eq_true rfl) dL_texts_87 rfl
        · refine nr_iconst (v := 0) hC dL_texts_86 (by decide) ?_
          exact nr_iretz hC hr (Nat.le_of_ble_eq_true rfl) (Nat.le_of_ble_eq_true rfl) dL_texts_87 rfl
      · refine nr_iconst (v := 0) hC dL_texts_86 (by decide) ?_
        exact nr_iretz hC hr (Nat.le_of_ble_eq_true rfl) (Nat.le_of_ble_eq_true rfl) dL_texts_87 rfl
    · refine nr_iconst (v := 0) hC dL_texts_86 (by decide) ?_
      exact nr_iretz hC hr (Nat.le_of_ble_eq_true rfl) (Nat.le_of_ble_eq_true rfl) dL_texts_87 rfl
  · refine nr_iconst (v := 0) hC dL_texts_86 (by decide) ?_
    exact nr_iretz hC hr (Nat.le_of_ble_eq_true rfl) (Nat.le_of_ble_eq_true rfl) dL_texts_87 rfl

theorem hmL_faultOf_cl : Cond.classLink RL 14 RX5 ∈ wsL_faultOf := List.mem_of_getElem? (i := 1) rfl
theorem hmL_faultOf_in : Cond.instantiable RX5 6 ∈ wsL_faultOf := List.mem_of_getElem? (i := 2) rfl
theorem hmL_faultOf_ini : Cond.initialized RX5 ∈ wsL_faultOf := List.mem_of_getElem? (i := 3) rfl
theorem hmL_faultOf_ml : Cond.methodLink RL 83 yX5_init ∈ wsL_faultOf := List.mem_of_getElem? (i := 4) rfl
theorem hmL_faultOf_im : Cond.instanceMethod yX5_init ∈ wsL_faultOf := List.mem_of_getElem? (i := 5) rfl
theorem hiL_faultOf_X5 : ∀ w ∈ wsX50, w ∈ wsL_faultOf := fun _ h => List.mem_cons_of_mem _ (List.mem_append_left _ (List.mem_append_left _ (List.mem_append_left _ (List.mem_append_left _ (List.mem_append_left _ (List.mem_append_right _ h))))))
set_option maxRecDepth 100000 in
def fL_faultOf (n : Nat) (p0 : Int64) (p2 : Int64) : Option Int32 :=
bi (fL_types n p0 mz) (fun r12 m12 =>
if r12 = 0 then
(some (-99 : Int32))
else
(bi (fL_types n p2 m12) (fun r21 m21 =>
if r21 = 0 then
(some (-99 : Int32))
else
(bi (fX5_readAll n m21) (fun r32 m32 =>
if r32 = (-1 : Int32) then
(some (-1 : Int32))
else
(some ((-100 : Int32) - r32)))))))
abbrev rmL_faultOf : Room := { frames := 6, cells := 241, slots := 3187, locals := 190 }
set_option maxRecDepth 100000 in
set_option maxHeartbeats 4000000 in
theorem tL_faultOf {l : Launch} {D : va_G} {cI cZ cC cJ cY cH : ClassId} {t1 t2 : Nat} (n : Nat) (p0 : Int64) (p2 : Int64) : ∀ r, fL_faultOf n p0 p2 = some r → Met l yL_faultOf wsL_faultOf rmL_faultOf (va_Pc [.long p0, .long p2] (nR D cI cZ cC cJ cY cH t1 t2)) (nQ r) 241 3187 (fun _ => False) := by
  refine n_start (cc := cL_faultOf) (maxL := 6) (ret := (some .int)) (by decide) rfl (Nat.le_of_ble_eq_true rfl) [(0, .long p0), (2, .long p2)] rfl ?_
  intro p e s m args below meth c hC hr
  rw [fL_faultOf]
  refine nr_new hC hiL_faultOf_X5 hmL_faultOf_cl hmL_faultOf_in hmL_faultOf_ini (cwI 0 hC.1.2.2.2.2 gL_faultOf_X5_init rfl rfl rfl (hC.1.2.2.2.2 _ hmL_faultOf_ini) (hC.1.2.2.2.2 _ hmL_faultOf_ml) (hC.1.2.2.2.2 _ hmL_faultOf_im) rfl (by decide +kernel) ⟨Nat.le_of_ble_eq_true rfl, Nat.le_of_ble_eq_true rfl⟩) (Nat.le_of_ble_eq_true rfl) (Nat.le_of_ble_eq_true rfl) (Nat.le_of_ble_eq_true rfl) dL_faultOf_0 dL_faultOf_3 dL_faultOf_4 (fun ad => ?_)
  refine nr_astore (lv' := [(4, .ref (ad 228)), (0, .long p0), (2, .long p2)]) hC dL_faultOf_7 (by decide) rfl ?_
  refine nr_aload hC dL_faultOf_9 0 rfl ?_
  refine nr_lload_n hC dL_faultOf_11 rfl 1 rfl ?_
  refine nr_callSi (As := [.ref (ad 228), .long p0]) hC rfl (fun hI => tL_types (t1 := t1) (t2 := t2) hI n p0 mz) (va_cwS 2 hC.1.2.2.2.2 gL_faultOf_L_types rfl rfl rfl (by decide +kernel) ⟨Nat.le_of_ble_eq_true rfl, Nat.le_of_ble_eq_true rfl⟩) rfl (Nat.le_of_ble_eq_true rfl) ⟨Nat.le_of_ble_eq_true rfl, Nat.le_of_ble_eq_true rfl⟩ dL_faultOf_12 (fun r12 m12 => ?_)
  refine nr_if_eq (tgt := 27) hC dL_faultOf_15 (by decide) (fun _ => ?_) (fun _ => ?_)
  · refine nr_bipush (v := -99) hC dL_faultOf_27 (by decide) ?_
    exact nr_ireti hC hr (Nat.le_of_ble_eq_true rfl) (Nat.le_of_ble_eq_true rfl) dL_faultOf_29
  · refine nr_aload hC dL_faultOf_18 0 rfl ?_
    refine nr_lload_n hC dL_faultOf_20 rfl 2 rfl ?_
    refine nr_callSi (As := [.ref (ad 228), .long p2]) hC rfl (fun hI => tL_types (t1 := t1) (t2 := t2) hI n p2 m12) (va_cwS 2 hC.1.2.2.2.2 gL_faultOf_L_types rfl rfl rfl (by decide +kernel) ⟨Nat.le_of_ble_eq_true rfl, Nat.le_of_ble_eq_true rfl⟩) rfl (Nat.le_of_ble_eq_true rfl) ⟨Nat.le_of_ble_eq_true rfl, Nat.le_of_ble_eq_true rfl⟩ dL_faultOf_21 (fun r21 m21 => ?_)
    refine nr_if_ne (tgt := 30) hC dL_faultOf_24 (by decide) (fun _ => ?_) (fun _ => ?_)
    · refine nr_bipush (v := -99) hC dL_faultOf_27 (by decide) ?_
      exact nr_ireti hC hr (Nat.le_of_ble_eq_true rfl) (Nat.le_of_ble_eq_true rfl) dL_faultOf_29
    · refine nr_aload hC dL_faultOf_30 0 rfl ?_
      refine nr_callVi (As := []) hC rfl (fun hI => tX5_readAll (t1 := t1) (t2 := t2) hI n m21) (cwV 0 hC.1.2.2.2.2 gL_faultOf_X5_readAll rfl rfl rfl (by decide +kernel) ⟨Nat.le_of_ble_eq_true rfl, Nat.le_of_ble_eq_true rfl⟩) rfl (Nat.le_of_ble_eq_true rfl) ⟨Nat.le_of_ble_eq_true rfl, Nat.le_of_ble_eq_true rfl⟩ dL_faultOf_32 (fun r32 m32 => ?_)
      refine nr_istore (lv' := [(5, .int r32), (4, .ref (ad 228)), (0, .long p0), (2, .long p2)]) hC dL_faultOf_35 (by decide) rfl ?_
      refine nr_iload hC dL_faultOf_37 0 rfl ?_
      refine nr_iconst (v := -1) hC dL_faultOf_39 (by decide) ?_
      refine nr_icmp_ne (tgt := 47) hC dL_faultOf_40 (by decide) (fun _ => ?_) (fun _ => ?_)
      · refine nr_iconst (v := -1) hC dL_faultOf_43 (by decide) ?_
        refine nr_goto (tgt := 52) hC dL_faultOf_44 (by decide) ?_
        exact nr_ireti hC hr (Nat.le_of_ble_eq_true rfl) (Nat.le_of_ble_eq_true rfl) dL_faultOf_52
      · refine nr_bipush (v := -100) hC dL_faultOf_47 (by decide) ?_
        refine nr_iload hC dL_faultOf_49 0 rfl ?_
        refine nr_isub hC dL_faultOf_51 ?_
        exact nr_ireti hC hr (Nat.le_of_ble_eq_true rfl) (Nat.le_of_ble_eq_true rfl) dL_faultOf_52

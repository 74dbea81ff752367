/-! BUILDERS (3): what is made; a year -/
def bT (cI cZ cC cJ cY cH : ClassId) : List (ClassId × FieldType) := [(cI, .int), (cZ, .boolean), (cC, .char), (cJ, .long), (cY, .object RX4), (cH, .object RX2)]
def bD (cI cZ cC cJ cY cH : ClassId) (kd : Nat → hb_k) (k : Nat) : ClassId := match hb_t kd k with
  | some .int => cI
  | some .boolean => cZ
  | some .char => cC
  | some .long => cJ
  | some (.object C) => if C = RX4 then cY else cH
  | _ => cI
theorem vVX0 : ∀ j, j < 5 → defaultValue (tyX0 j) = vp_V [.null, .null, .null, .null, .null] j := fun j hj => by
  rcases (show j = 0 ∨ j = 1 ∨ j = 2 ∨ j = 3 ∨ j = 4 by omega) with rfl | rfl | rfl | rfl | rfl <;> rfl
theorem vVX1 : ∀ j, j < 3 → defaultValue (tyX1 j) = vp_V [.null, .int 0, .int 0] j := fun j hj => by
  rcases (show j = 0 ∨ j = 1 ∨ j = 2 by omega) with rfl | rfl | rfl <;> rfl
theorem vVX2 : ∀ j, j < 12 → defaultValue (tyX2 j) = vp_V [.int 0, .null, .null, .null, .null, .null, .null, .int 0, .int 0, .null, .int 0, .null] j := fun j hj => by
  rcases (show j = 0 ∨ j = 1 ∨ j = 2 ∨ j = 3 ∨ j = 4 ∨ j = 5 ∨ j = 6 ∨ j = 7 ∨ j = 8 ∨ j = 9 ∨ j = 10 ∨ j = 11 by omega) with rfl | rfl | rfl | rfl | rfl | rfl | rfl | rfl | rfl | rfl | rfl | rfl <;> rfl
theorem vVX3 : ∀ j, j < 7 → defaultValue (tyX3 j) = vp_V [.null, .int 0, .int 0, .int 0, .int 0, .null, .null] j := fun j hj => by
  rcases (show j = 0 ∨ j = 1 ∨ j = 2 ∨ j = 3 ∨ j = 4 ∨ j = 5 ∨ j = 6 by omega) with rfl | rfl | rfl | rfl | rfl | rfl | rfl <;> rfl
theorem vVX4 : ∀ j, j < 8 → defaultValue (tyX4 j) = vp_V [.int 0, .int 0, .int 0, .null, .null, .null, .null, .null] j := fun j hj => by
  rcases (show j = 0 ∨ j = 1 ∨ j = 2 ∨ j = 3 ∨ j = 4 ∨ j = 5 ∨ j = 6 ∨ j = 7 by omega) with rfl | rfl | rfl | rfl | rfl | rfl | rfl | rfl <;> rfl
theorem vVX5 : ∀ j, j < 6 → defaultValue (tyX5 j) = vp_V [.null, .null, .int 0, .null, .null, .null] j := fun j hj => by
  rcases (show j = 0 ∨ j = 1 ∨ j = 2 ∨ j = 3 ∨ j = 4 ∨ j = 5 by omega) with rfl | rfl | rfl | rfl | rfl | rfl <;> rfl
theorem vin_0 : vp_in (0 : Int32) 4 := by unfold vp_in; decide
theorem vin_1 : vp_in (1 : Int32) 4 := by unfold vp_in; decide
theorem vin_2 : vp_in (2 : Int32) 4 := by unfold vp_in; decide
theorem vin_3 : vp_in (3 : Int32) 4 := by unfold vp_in; decide
theorem vin_4_415 : vp_in (4 : Int32) 415 := by unfold vp_in; decide
theorem b_pool {X pl w : va_W} {y : Nat × va_E} (h : w[0]? = some y) : (X ++ (w ++ pl))[X.length]? = some y := by
  rw [List.getElem?_append_right (Nat.le_refl _), Nat.sub_self, List.getElem?_append_left (List.getElem?_eq_some_iff.mp h).1]
  exact h
abbrev yS : Type := (Nat → Nat) × (Nat → Nat → Int32)
def yP (b : Nat) (u : yS) : Prop := u.1 0 = b ∧ u.2 0 0 = 0 ∧ u.2 0 1 = 40 ∧ u.2 0 2 = 0 ∧ (∀ j, j < 8 → u.2 1 j = -5) ∧ (∀ j, j < 8 → u.2 2 j = -5) ∧ ∀ k j, 3 ≤ k → u.2 k j = 0
def yW (cI cZ cC cJ cY cH : ClassId) (u : yS) : va_W := hb_L 6 u.1 (hb_E0 u.1 (bD cI cZ cC cJ cY cH (kxYs 0)) (kxYs 0) u.2 (fun _ _ => 0))
theorem kX4_0 (cI cZ cC cJ cY cH : ClassId) (u : yS) : (yW cI cZ cC cJ cY cH u)[0]? = some (u.1 0, .inr (4, [.int (u.2 0 0), .int (u.2 0 1), .int (u.2 0 2), .ref (u.1 1), .ref (u.1 2), .ref (u.1 3), .ref (u.1 4), .ref (u.1 5)])) := rfl
abbrev rkX4 : Room := { frames := 1, cells := 5, slots := 68, locals := 23 }
set_option maxRecDepth 100000 in
set_option maxHeartbeats 4000000 in
theorem kX4 {l : Launch} {D : va_G} {cI cZ cC cJ cY cH : ClassId} {b : Nat} : bM l yX4_init wsX4_init rkX4 vwCl D (bT cI cZ cC cJ cY cH) 4 [.int 0, .int 0, .int 0, .null, .null, .null, .null, .null] 5 68 (S := yS) (yP b) (yW cI cZ cC cJ cY cH) b := by
  refine b_start (cc := cX4_init) (maxL := 1) (by decide) rfl rfl (by decide) ?_
  intro p e s m args below meth c A hC
  have hi : ∀ w ∈ u_ws RX4 TX4 8, w ∈ wsX4_init := by decide +kernel
  refine b_aload_n hC dX4_init_0 rfl 0 rfl ?_
  refine b_obj hC (by decide +kernel) (by decide +kernel) (by decide +kernel) dX4_init_1 (Nat.le_of_ble_eq_true rfl) (Nat.le_of_ble_eq_true rfl) ?_
  refine b_aload_n hC dX4_init_4 rfl 0 rfl ?_
  refine b_iconst (v := 0) hC dX4_init_5 (by decide) ?_
  refine b_put (C := RX4) (T := TX4) (N := 8) (ci := 4) (ty := tyX4) (fs := [.int 0, .int 0, .int 0, .null, .null, .null, .null, .null]) hC hi tyX4_ok nmX4 0 rfl rfl 0 (by decide) (by decide +kernel) rfl rfl rfl (Nat.le_of_ble_eq_true rfl) dX4_init_6 ?_
  refine b_nf (X' := [(b, .inr (4, [.int 0, .int 0, .int 0, .null, .null, .null, .null, .null]))]) rfl ?_
  refine b_aload_n hC dX4_init_9 rfl 0 rfl ?_
  refine b_bipush (v := 40) hC dX4_init_10 (by decide) ?_
  refine b_put (C := RX4) (T := TX4) (N := 8) (ci := 4) (ty := tyX4) (fs := [.int 0, .int 0, .int 0, .null, .null, .null, .null, .null]) hC hi tyX4_ok nmX4 0 rfl rfl 1 (by decide) (by decide +kernel) rfl rfl rfl (Nat.le_of_ble_eq_true rfl) dX4_init_12 ?_
  refine b_nf (X' := [(b, .inr (4, [.int 0, .int 40, .int 0, .null, .null, .null, .null, .null]))]) rfl ?_
  refine b_aload_n hC dX4_init_15 rfl 0 rfl ?_
  refine b_iconst (v := 0) hC dX4_init_16 (by decide) ?_
  refine b_put (C := RX4) (T := TX4) (N := 8) (ci := 4) (ty := tyX4) (fs := [.int 0, .int 40, .int 0, .null, .null, .null, .null, .null]) hC hi tyX4_ok nmX4 0 rfl rfl 2 (by decide) (by decide +kernel) rfl rfl rfl (Nat.le_of_ble_eq_true rfl) dX4_init_17 ?_
  refine b_nf (X' := [(b, .inr (4, [.int 0, .int 40, .int 0, .null, .null, .null, .null, .null]))]) rfl ?_
  refine b_aload_n hC dX4_init_20 rfl 0 rfl ?_
  refine b_bipush (v := 8) hC dX4_init_21 (by decide) ?_
  refine b_newa (atype := .int) (ty := .int) (t0 := 0) (N' := 8) (a0 := (8, .inl (fun _ => 0))) hC (by decide +kernel) rfl rfl (fun _ => rfl) (by decide) rfl (Nat.le_of_ble_eq_true rfl) (Nat.le_of_ble_eq_true rfl) (Nat.le_of_ble_eq_true rfl) dX4_init_23 (fun q1 => ?_)
  refine b_nf (X' := [(b, .inr (4, [.int 0, .int 40, .int 0, .null, .null, .null, .null, .null])), (q1, .inl (cI, 8, .inl (fun _ => 0)))]) rfl ?_
  refine b_putF (C := RX4) (T := TX4) (N := 8) (ci := 4) (ty := tyX4) (fs := [.int 0, .int 40, .int 0, .null, .null, .null, .null, .null]) hC hi tyX4_ok nmX4 0 rfl rfl 3 (by decide) (by decide +kernel) rfl rfl rfl rfl (Nat.le_of_ble_eq_true rfl) dX4_init_25 ?_
  refine b_nf (X' := [(b, .inr (4, [.int 0, .int 40, .int 0, .ref q1, .null, .null, .null, .null])), (q1, .inl (cI, 8, .inl (fun _ => 0)))]) rfl ?_
  refine b_aload_n hC dX4_init_28 rfl 0 rfl ?_
  refine b_bipush (v := 8) hC dX4_init_29 (by decide) ?_
  refine b_newa (atype := .int) (ty := .int) (t0 := 0) (N' := 8) (a0 := (8, .inl (fun _ => 0))) hC (by decide +kernel) rfl rfl (fun _ => rfl) (by decide) rfl (Nat.le_of_ble_eq_true rfl) (Nat.le_of_ble_eq_true rfl) (Nat.le_of_ble_eq_true rfl) dX4_init_31 (fun q2 => ?_)
  refine b_nf (X' := [(b, .inr (4, [.int 0, .int 40, .int 0, .ref q1, .null, .null, .null, .null])), (q1, .inl (cI, 8, .inl (fun _ => 0))), (q2, .inl (cI, 8, .inl (fun _ => 0)))]) rfl ?_
  refine b_putF (C := RX4) (T := TX4) (N := 8) (ci := 4) (ty := tyX4) (fs := [.int 0, .int 40, .int 0, .ref q1, .null, .null, .null, .null]) hC hi tyX4_ok nmX4 0 rfl rfl 4 (by decide) (by decide +kernel) rfl rfl rfl rfl (Nat.le_of_ble_eq_true rfl) dX4_init_33 ?_
  refine b_nf (X' := [(b, .inr (4, [.int 0, .int 40, .int 0, .ref q1, .ref q2, .null, .null, .null])), (q1, .inl (cI, 8, .inl (fun _ => 0))), (q2, .inl (cI, 8, .inl (fun _ => 0)))]) rfl ?_
  refine b_aload_n hC dX4_init_36 rfl 0 rfl ?_
  refine b_bipush (v := 20) hC dX4_init_37 (by decide) ?_
  refine b_newa (atype := .int) (ty := .int) (t0 := 0) (N' := 20) (a0 := (20, .inl (fun _ => 0))) hC (by decide +kernel) rfl rfl (fun _ => rfl) (by decide) rfl (Nat.le_of_ble_eq_true rfl) (Nat.le_of_ble_eq_true rfl) (Nat.le_of_ble_eq_true rfl) dX4_init_39 (fun q3 => ?_)
  refine b_nf (X' := [(b, .inr (4, [.int 0, .int 40, .int 0, .ref q1, .ref q2, .null, .null, .null])), (q1, .inl (cI, 8, .inl (fun _ => 0))), (q2, .inl (cI, 8, .inl (fun _ => 0))), (q3, .inl (cI, 20, .inl (fun _ => 0)))]) rfl ?_
  refine b_putF (C := RX4) (T := TX4) (N := 8) (ci := 4) (ty := tyX4) (fs := [.int 0, .int 40, .int 0, .ref q1, .ref q2, .null, .null, .null]) hC hi tyX4_ok nmX4 0 rfl rfl 5 (by decide) (by decide +kernel) rfl rfl rfl rfl (Nat.le_of_ble_eq_true rfl) dX4_init_41 ?_
  refine b_nf (X' := [(b, .inr (4, [.int 0, .int 40, .int 0, .ref q1, .ref q2, .ref q3, .null, .null])), (q1, .inl (cI, 8, .inl (fun _ => 0))), (q2, .inl (cI, 8, .inl (fun _ => 0))), (q3, .inl (cI, 20, .inl (fun _ => 0)))]) rfl ?_
  refine b_aload_n hC dX4_init_44 rfl 0 rfl ?_
  refine b_bipush (v := 16) hC dX4_init_45 (by decide) ?_
  refine b_newa (atype := .int) (ty := .int) (t0 := 0) (N' := 16) (a0 := (16, .inl (fun _ => 0))) hC (by decide +kernel) rfl rfl (fun _ => rfl) (by decide) rfl (Nat.le_of_ble_eq_true rfl) (Nat.le_of_ble_eq_true rfl) (Nat.le_of_ble_eq_true rfl) dX4_init_47 (fun q4 => ?_)
  refine b_nf (X' := [(b, .inr (4, [.int 0, .int 40, .int 0, .ref q1, .ref q2, .ref q3, .null, .null])), (q1, .inl (cI, 8, .inl (fun _ => 0))), (q2, .inl (cI, 8, .inl (fun _ => 0))), (q3, .inl (cI, 20, .inl (fun _ => 0))), (q4, .inl (cI, 16, .inl (fun _ => 0)))]) rfl ?_
  refine b_putF (C := RX4) (T := TX4) (N := 8) (ci := 4) (ty := tyX4) (fs := [.int 0, .int 40, .int 0, .ref q1, .ref q2, .ref q3, .null, .null]) hC hi tyX4_ok nmX4 0 rfl rfl 6 (by decide) (by decide +kernel) rfl rfl rfl rfl (Nat.le_of_ble_eq_true rfl) dX4_init_49 ?_
  refine b_nf (X' := [(b, .inr (4, [.int 0, .int 40, .int 0, .ref q1, .ref q2, .ref q3, .ref q4, .null])), (q1, .inl (cI, 8, .inl (fun _ => 0))), (q2, .inl (cI, 8, .inl (fun _ => 0))), (q3, .inl (cI, 20, .inl (fun _ => 0))), (q4, .inl (cI, 16, .inl (fun _ => 0)))]) rfl ?_
  refine b_aload_n hC dX4_init_52 rfl 0 rfl ?_
  refine b_bipush (v := 16) hC dX4_init_53 (by decide) ?_
  refine b_newa (atype := .int) (ty := .int) (t0 := 0) (N' := 16) (a0 := (16, .inl (fun _ => 0))) hC (by decide +kernel) rfl rfl (fun _ => rfl) (by decide) rfl (Nat.le_of_ble_eq_true rfl) (Nat.le_of_ble_eq_true rfl) (Nat.le_of_ble_eq_true rfl) dX4_init_55 (fun q5 => ?_)
  refine b_nf (X' := [(b, .inr (4, [.int 0, .int 40, .int 0, .ref q1, .ref q2, .ref q3, .ref q4, .null])), (q1, .inl (cI, 8, .inl (fun _ => 0))), (q2, .inl (cI, 8, .inl (fun _ => 0))), (q3, .inl (cI, 20, .inl (fun _ => 0))), (q4, .inl (cI, 16, .inl (fun _ => 0))), (q5, .inl (cI, 16, .inl (fun _ => 0)))]) rfl ?_
  refine b_putF (C := RX4) (T := TX4) (N := 8) (ci := 4) (ty := tyX4) (fs := [.int 0, .int 40, .int 0, .ref q1, .ref q2, .ref q3, .ref q4, .null]) hC hi tyX4_ok nmX4 0 rfl rfl 7 (by decide) (by decide +kernel) rfl rfl rfl rfl (Nat.le_of_ble_eq_true rfl) dX4_init_57 ?_
  refine b_nf (X' := [(b, .inr (4, [.int 0, .int 40, .int 0, .ref q1, .ref q2, .ref q3, .ref q4, .ref q5])), (q1, .inl (cI, 8, .inl (fun _ => 0))), (q2, .inl (cI, 8, .inl (fun _ => 0))), (q3, .inl (cI, 20, .inl (fun _ => 0))), (q4, .inl (cI, 16, .inl (fun _ => 0))), (q5, .inl (cI, 16, .inl (fun _ => 0)))]) rfl ?_
  refine b_aload_n hC dX4_init_60 rfl 0 rfl ?_
  refine b_getq (C := RX4) (T := TX4) (N := 8) (ci := 4) (fs := [.int 0, .int 40, .int 0, .ref q1, .ref q2, .ref q3, .ref q4, .ref q5]) (v := .ref q1) hC hi 0 rfl rfl 3 (by decide) (by decide +kernel) rfl dX4_init_61 ?_
  refine b_bipush (v := (-5)) hC dX4_init_64 (by decide) ?_
  refine b_fill hC 1 rfl (t0 := 0) rfl (va_cwS 2 hC.1.2.2.2.2 gX4_init_J7_fill_53178 rfl rfl rfl (by decide +kernel) ⟨Nat.le_of_ble_eq_true rfl, Nat.le_of_ble_eq_true rfl⟩) (Nat.le_of_ble_eq_true rfl) dX4_init_66 ⟨Nat.le_of_ble_eq_true rfl, Nat.le_of_ble_eq_true rfl⟩ (fun f1 hf1 => ?_)
  refine b_nf (X' := [(b, .inr (4, [.int 0, .int 40, .int 0, .ref q1, .ref q2, .ref q3, .ref q4, .ref q5])), (q1, .inl (cI, 8, .inl f1)), (q2, .inl (cI, 8, .inl (fun _ => 0))), (q3, .inl (cI, 20, .inl (fun _ => 0))), (q4, .inl (cI, 16, .inl (fun _ => 0))), (q5, .inl (cI, 16, .inl (fun _ => 0)))]) rfl ?_
  refine b_aload_n hC dX4_init_69 rfl 0 rfl ?_
  refine b_getq (C := RX4) (T := TX4) (N := 8) (ci := 4) (fs := [.int 0, .int 40, .int 0, .ref q1, .ref q2, .ref q3, .ref q4, .ref q5]) (v := .ref q2) hC hi 0 rfl rfl 4 (by decide) (by decide +kernel) rfl dX4_init_70 ?_
  refine b_bipush (v := (-5)) hC dX4_init_73 (by decide) ?_
  refine b_fill hC 2 rfl (t0 := 0) rfl (va_cwS 2 hC.1.2.2.2.2 gX4_init_J7_fill_53178 rfl rfl rfl (by decide +kernel) ⟨Nat.le_of_ble_eq_true rfl, Nat.le_of_ble_eq_true rfl⟩) (Nat.le_of_ble_eq_true rfl) dX4_init_75 ⟨Nat.le_of_ble_eq_true rfl, Nat.le_of_ble_eq_true rfl⟩ (fun f2 hf2 => ?_)
  refine b_nf (X' := [(b, .inr (4, [.int 0, .int 40, .int 0, .ref q1, .ref q2, .ref q3, .ref q4, .ref q5])), (q1, .inl (cI, 8, .inl f1)), (q2, .inl (cI, 8, .inl f2)), (q3, .inl (cI, 20, .inl (fun _ => 0))), (q4, .inl (cI, 16, .inl (fun _ => 0))), (q5, .inl (cI, 16, .inl (fun _ => 0)))]) rfl ?_
  refine b_ret hC (u := (fun k => [b, q1, q2, q3, q4, q5].getD k 0, fun k => [fun i => [0, 40, 0].getD i 0, f1, f2].getD k (fun _ => 0))) ⟨rfl, rfl, rfl, rfl, hf1, hf2, fun k j hk => ?_⟩ rfl dX4_init_78
  have h9 : ([fun i => [0, 40, 0].getD i 0, f1, f2] : List (Nat → Int32)).getD k (fun _ => 0) = fun _ => 0 := by
    rw [List.getD_eq_getElem?_getD, List.getElem?_eq_none (by exact hk)]
    rfl
  exact congrFun h9 j

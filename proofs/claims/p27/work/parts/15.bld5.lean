/-! BUILDERS (5): history, text, accounts, the object; the reference -/
def hF (u : hS) : Prop := (u.2.2 = fun j => ([14, 20, 26, 32][j]?).map u.1) ∧ (∀ k j, k < 8 → u.2.1 k j = 0) ∧ ∀ y, y < 5 → u.2.1 (8 + 6 * y) 0 = 0 ∧ u.2.1 (8 + 6 * y) 1 = 40 ∧ u.2.1 (8 + 6 * y) 2 = 0 ∧ (∀ j, j < 8 → u.2.1 (8 + 6 * y + 1) j = -5) ∧ (∀ j, j < 8 → u.2.1 (8 + 6 * y + 2) j = -5) ∧ ∀ i j, 3 ≤ i → i < 6 → u.2.1 (8 + 6 * y + i) j = 0
abbrev iS : Type := (Nat × Nat) × (hS × hS × hS × hS) × (Nat → Option Nat)
def iW (cI cZ cC cJ cY cH : ClassId) (u : iS) : va_W := [(u.1.1, .inr (1, [.ref u.1.2, .int 0, .int 0])), (u.1.2, .inl (cH, 4, .inr (.inr (.inr (.inr u.2.2)))))] ++ (hW cI cZ cC cJ cY cH u.2.1.2.2.2 ++ (hW cI cZ cC cJ cY cH u.2.1.2.2.1 ++ (hW cI cZ cC cJ cY cH u.2.1.2.1 ++ (hW cI cZ cC cJ cY cH u.2.1.1 ++ []))))
def iP (b : Nat) (u : iS) : Prop := u.1.1 = b ∧ (u.2.2 = fun j => [u.2.1.1.1 0, u.2.1.2.1.1 0, u.2.1.2.2.1.1 0, u.2.1.2.2.2.1 0][j]?) ∧ hF u.2.1.1 ∧ hF u.2.1.2.1 ∧ hF u.2.1.2.2.1 ∧ hF u.2.1.2.2.2
abbrev rkX1 : Room := { frames := 4, cells := 153, slots := 2020, locals := 140 }
set_option maxRecDepth 100000 in
set_option maxHeartbeats 4000000 in
theorem kX1 {l : Launch} {D : va_G} {cI cZ cC cJ cY cH : ClassId} {b : Nat} : bM l yX1_init wsX1_init rkX1 vwCl D (bT cI cZ cC cJ cY cH) 1 [.null, .int 0, .int 0] 153 2020 (S := iS) (iP b) (iW cI cZ cC cJ cY cH) b := by
  refine b_start (cc := cX1_init) (maxL := 2) (by decide) rfl rfl (by decide) ?_
  intro p e s m args below meth c A hC
  have hi : ∀ w ∈ u_ws RX1 TX1 3, w ∈ wsX1_init := by decide +kernel
  refine b_aload_n hC dX1_init_0 rfl 0 rfl ?_
  refine b_obj hC (by decide +kernel) (by decide +kernel) (by decide +kernel) dX1_init_1 (Nat.le_of_ble_eq_true rfl) (Nat.le_of_ble_eq_true rfl) ?_
  refine b_aload_n hC dX1_init_4 rfl 0 rfl ?_
  refine b_iconst (v := 4) hC dX1_init_5 (by decide) ?_
  refine b_newq (C := RX2) (t0 := 5) (N' := 4) hC (by decide +kernel) hC.2.2.2.2.2.2.2 rfl (by decide) rfl (Nat.le_of_ble_eq_true rfl) (Nat.le_of_ble_eq_true rfl) (Nat.le_of_ble_eq_true rfl) dX1_init_6 (fun q1 => ?_)
  refine b_nf (X' := [(b, .inr (1, [.null, .int 0, .int 0])), (q1, .inl (cH, 4, .inr (.inr (.inr (.inr (fun _ => none))))))]) rfl ?_
  refine b_putF (C := RX1) (T := TX1) (N := 3) (ci := 1) (ty := tyX1) (fs := [.null, .int 0, .int 0]) hC hi tyX1_ok nmX1 0 rfl rfl 0 (by decide) (by decide +kernel) rfl rfl rfl rfl (Nat.le_of_ble_eq_true rfl) dX1_init_9 ?_
  refine b_nf (X' := [(b, .inr (1, [.ref q1, .int 0, .int 0])), (q1, .inl (cH, 4, .inr (.inr (.inr (.inr (fun _ => none))))))]) rfl ?_
  refine b_iconst (v := 0) hC dX1_init_12 (by decide) ?_
  refine b_istore_n (lv' := [(1, .int 0), (0, .ref b)]) hC dX1_init_13 rfl (by decide) rfl ?_
  refine b_iload_n hC dX1_init_14 rfl 0 rfl ?_
  refine b_iconst (v := 4) hC dX1_init_15 (by decide) ?_
  refine b_icmp_ge (tgt := 38) hC dX1_init_16 (by decide) (fun h => absurd h (by decide)) (fun _ => ?_)
  refine b_aload_n hC dX1_init_19 rfl 1 rfl ?_
  refine b_getq (C := RX1) (T := TX1) (N := 3) (ci := 1) (fs := [.ref q1, .int 0, .int 0]) (v := .ref q1) hC hi 0 rfl rfl 0 (by decide) (by decide +kernel) rfl dX1_init_20 ?_
  refine b_iload_n hC dX1_init_23 rfl 0 rfl ?_
  refine b_new (C := RX2) (T := TX2) (N := 12) (ci := 2) (ty := tyX2) (fs := [.int 0, .null, .null, .null, .null, .null, .null, .int 0, .int 0, .null, .int 0, .null]) hC (by decide +kernel) tyX2_ok (by decide +kernel) (by decide +kernel) (by decide +kernel) rfl (vVX2) (Nat.le_of_ble_eq_true rfl) (Nat.le_of_ble_eq_true rfl) dX1_init_24 (fun q2 => ?_)
  refine b_dup hC dX1_init_27 rfl ?_
  refine b_call hC (kX2 (cI := cI) (cZ := cZ) (cC := cC) (cJ := cJ) (cY := cY) (cH := cH)) (cwI 0 hC.1.2.2.2.2 gX1_init_X2_init rfl rfl rfl (hC.1.2.2.2.2 _ (by decide +kernel)) (hC.1.2.2.2.2 _ (by decide +kernel)) (hC.1.2.2.2.2 _ (by decide +kernel)) rfl (by decide +kernel) ⟨Nat.le_of_ble_eq_true rfl, Nat.le_of_ble_eq_true rfl⟩) (Nat.le_of_ble_eq_true rfl) dX1_init_28 ⟨Nat.le_of_ble_eq_true rfl, Nat.le_of_ble_eq_true rfl⟩ (fun u1 hu1 => ?_)
  obtain ⟨rfl, hu1⟩ := hu1
  refine b_astq (r := (RX2, TX2, 12)) (ci := 2) (t0 := 5) hC 1 rfl rfl (b_pool (kX2_0 ..)) rfl (vin_0) dX1_init_31 ?_
  refine b_nf (X' := [(b, .inr (1, [.ref q1, .int 0, .int 0])), (q1, .inl (cH, 4, .inr (.inr (.inr (.inr (va_up (fun _ => none) (0 : Int32).toNatClampNeg (some (u1.1 0))))))))]) rfl ?_
  refine b_iinc (v := 1) (lv' := [(1, .int 1), (0, .ref b)]) (kx := 0) hC dX1_init_32 rfl rfl (by decide) rfl ?_
  refine b_goto (tgt := 14) hC dX1_init_35 (by decide) ?_
  refine b_iload_n hC dX1_init_14 rfl 0 rfl ?_
  refine b_iconst (v := 4) hC dX1_init_15 (by decide) ?_
  refine b_icmp_ge (tgt := 38) hC dX1_init_16 (by decide) (fun h => absurd h (by decide)) (fun _ => ?_)
  refine b_aload_n hC dX1_init_19 rfl 1 rfl ?_
  refine b_getq (C := RX1) (T := TX1) (N := 3) (ci := 1) (fs := [.ref q1, .int 0, .int 0]) (v := .ref q1) hC hi 0 rfl rfl 0 (by decide) (by decide +kernel) rfl dX1_init_20 ?_
  refine b_iload_n hC dX1_init_23 rfl 0 rfl ?_
  refine b_new (C := RX2) (T := TX2) (N := 12) (ci := 2) (ty := tyX2) (fs := [.int 0, .null, .null, .null, .null, .null, .null, .int 0, .int 0, .null, .int 0, .null]) hC (by decide +kernel) tyX2_ok (by decide +kernel) (by decide +kernel) (by decide +kernel) rfl (vVX2) (Nat.le_of_ble_eq_true rfl) (Nat.le_of_ble_eq_true rfl) dX1_init_24 (fun q3 => ?_)
  refine b_dup hC dX1_init_27 rfl ?_
  refine b_call hC (kX2 (cI := cI) (cZ := cZ) (cC := cC) (cJ := cJ) (cY := cY) (cH := cH)) (cwI 0 hC.1.2.2.2.2 gX1_init_X2_init rfl rfl rfl (hC.1.2.2.2.2 _ (by decide +kernel)) (hC.1.2.2.2.2 _ (by decide +kernel)) (hC.1.2.2.2.2 _ (by decide +kernel)) rfl (by decide +kernel) ⟨Nat.le_of_ble_eq_true rfl, Nat.le_of_ble_eq_true rfl⟩) (Nat.le_of_ble_eq_true rfl) dX1_init_28 ⟨Nat.le_of_ble_eq_true rfl, Nat.le_of_ble_eq_true rfl⟩ (fun u2 hu2 => ?_)
  obtain ⟨rfl, hu2⟩ := hu2
  refine b_astq (r := (RX2, TX2, 12)) (ci := 2) (t0 := 5) hC 1 rfl rfl (b_pool (kX2_0 ..)) rfl (vin_1) dX1_init_31 ?_
  refine b_nf (X' := [(b, .inr (1, [.ref q1, .int 0, .int 0])), (q1, .inl (cH, 4, .inr (.inr (.inr (.inr (va_up (va_up (fun _ => none) (0 : Int32).toNatClampNeg (some (u1.1 0))) (1 : Int32).toNatClampNeg (some (u2.1 0))))))))]) rfl ?_
  refine b_iinc (v := 2) (lv' := [(1, .int 2), (0, .ref b)]) (kx := 0) hC dX1_init_32 rfl rfl (by decide) rfl ?_
  refine b_goto (tgt := 14) hC dX1_init_35 (by decide) ?_
  refine b_iload_n hC dX1_init_14 rfl 0 rfl ?_
  refine b_iconst (v := 4) hC dX1_init_15 (by decide) ?_
  refine b_icmp_ge (tgt := 38) hC dX1_init_16 (by decide) (fun h => absurd h (by decide)) (fun _ => ?_)
  refine b_aload_n hC dX1_init_19 rfl 1 rfl ?_
  refine b_getq (C := RX1) (T := TX1) (N := 3) (ci := 1) (fs := [.ref q1, .int 0, .int 0]) (v := .ref q1) hC hi 0 rfl rfl 0 (by decide) (by decide +kernel) rfl dX1_init_20 ?_
  refine b_iload_n hC dX1_init_23 rfl 0 rfl ?_
  refine b_new (C := RX2) (T := TX2) (N := 12) (ci := 2) (ty := tyX2) (fs := [.int 0, .null, .null, .null, .null, .null, .null, .int 0, .int 0, .null, .int 0, .null]) hC (by decide +kernel) tyX2_ok (by decide +kernel) (by decide +kernel) (by decide +kernel) rfl (vVX2) (Nat.le_of_ble_eq_true rfl) (Nat.le_of_ble_eq_true rfl) dX1_init_24 (fun q4 => ?_)
  refine b_dup hC dX1_init_27 rfl ?_
  refine b_call hC (kX2 (cI := cI) (cZ := cZ) (cC := cC) (cJ := cJ) (cY := cY) (cH := cH)) (cwI 0 hC.1.2.2.2.2 gX1_init_X2_init rfl rfl rfl (hC.1.2.2.2.2 _ (by decide +kernel)) (hC.1.2.2.2.2 _ (by decide +kernel)) (hC.1.2.2.2.2 _ (by decide +kernel)) rfl (by decide +kernel) ⟨Nat.le_of_ble_eq_true rfl, Nat.le_of_ble_eq_true rfl⟩) (Nat.le_of_ble_eq_true rfl) dX1_init_28 ⟨Nat.le_of_ble_eq_true rfl, Nat.le_of_ble_eq_true rfl⟩ (fun u3 hu3 => ?_)
  obtain ⟨rfl, hu3⟩ := hu3
  refine b_astq (r := (RX2, TX2, 12)) (ci := 2) (t0 := 5) hC 1 rfl rfl (b_pool (kX2_0 ..)) rfl (vin_2) dX1_init_31 ?_
  refine b_nf (X' := [(b, .inr (1, [.ref q1, .int 0, .int 0])), (q1, .inl (cH, 4, .inr (.inr (.inr (.inr (va_up (va_up (va_up (fun _ => none) (0 : Int32).toNatClampNeg (some (u1.1 0))) (1 : Int32).toNatClampNeg (some (u2.1 0))) (2 : Int32).toNatClampNeg (some (u3.1 0))))))))]) rfl ?_
  refine b_iinc (v := 3) (lv' := [(1, .int 3), (0, .ref b)]) (kx := 0) hC dX1_init_32 rfl rfl (by decide) rfl ?_
  refine b_goto (tgt := 14) hC dX1_init_35 (by decide) ?_
  refine b_iload_n hC dX1_init_14 rfl 0 rfl ?_
  refine b_iconst (v := 4) hC dX1_init_15 (by decide) ?_
  refine b_icmp_ge (tgt := 38) hC dX1_init_16 (by decide) (fun h => absurd h (by decide)) (fun _ => ?_)
  refine b_aload_n hC dX1_init_19 rfl 1 rfl ?_
  refine b_getq (C := RX1) (T := TX1) (N := 3) (ci := 1) (fs := [.ref q1, .int 0, .int 0]) (v := .ref q1) hC hi 0 rfl rfl 0 (by decide) (by decide +kernel) rfl dX1_init_20 ?_
  refine b_iload_n hC dX1_init_23 rfl 0 rfl ?_
  refine b_new (C := RX2) (T := TX2) (N := 12) (ci := 2) (ty := tyX2) (fs := [.int 0, .null, .null, .null, .null, .null, .null, .int 0, .int 0, .null, .int 0, .null]) hC (by decide +kernel) tyX2_ok (by decide +kernel) (by decide +kernel) (by decide +kernel) rfl (vVX2) (Nat.le_of_ble_eq_true rfl) (Nat.le_of_ble_eq_true rfl) dX1_init_24 (fun q5 => ?_)
  refine b_dup hC dX1_init_27 rfl ?_
  refine b_call hC (kX2 (cI := cI) (cZ := cZ) (cC := cC) (cJ := cJ) (cY := cY) (cH := cH)) (cwI 0 hC.1.2.2.2.2 gX1_init_X2_init rfl rfl rfl (hC.1.2.2.2.2 _ (by decide +kernel)) (hC.1.2.2.2.2 _ (by decide +kernel)) (hC.1.2.2.2.2 _ (by decide +kernel)) rfl (by decide +kernel) ⟨Nat.le_of_ble_eq_true rfl, Nat.le_of_ble_eq_true rfl⟩) (Nat.le_of_ble_eq_true rfl) dX1_init_28 ⟨Nat.le_of_ble_eq_true rfl, Nat.le_of_ble_eq_true rfl⟩ (fun u4 hu4 => ?_)
  obtain ⟨rfl, hu4⟩ := hu4
  refine b_astq (r := (RX2, TX2, 12)) (ci := 2) (t0 := 5) hC 1 rfl rfl (b_pool (kX2_0 ..)) rfl (vin_3) dX1_init_31 ?_
  refine b_nf (X' := [(b, .inr (1, [.ref q1, .int 0, .int 0])), (q1, .inl (cH, 4, .inr (.inr (.inr (.inr (va_up (va_up (va_up (va_up (fun _ => none) (0 : Int32).toNatClampNeg (some (u1.1 0))) (1 : Int32).toNatClampNeg (some (u2.1 0))) (2 : Int32).toNatClampNeg (some (u3.1 0))) (3 : Int32).toNatClampNeg (some (u4.1 0))))))))]) rfl ?_
  refine b_iinc (v := 4) (lv' := [(1, .int 4), (0, .ref b)]) (kx := 0) hC dX1_init_32 rfl rfl (by decide) rfl ?_
  refine b_goto (tgt := 14) hC dX1_init_35 (by decide) ?_
  refine b_iload_n hC dX1_init_14 rfl 0 rfl ?_
  refine b_iconst (v := 4) hC dX1_init_15 (by decide) ?_
  refine b_icmp_ge (tgt := 38) hC dX1_init_16 (by decide) (fun _ => ?_) (fun h => absurd (show (4 : Int32) ≤ 4 by decide) h)
  refine b_aload_n hC dX1_init_38 rfl 1 rfl ?_
  refine b_iconst (v := 0) hC dX1_init_39 (by decide) ?_
  refine b_put (C := RX1) (T := TX1) (N := 3) (ci := 1) (ty := tyX1) (fs := [.ref q1, .int 0, .int 0]) hC hi tyX1_ok nmX1 0 rfl rfl 1 (by decide) (by decide +kernel) rfl rfl rfl (Nat.le_of_ble_eq_true rfl) dX1_init_40 ?_
  refine b_nf (X' := [(b, .inr (1, [.ref q1, .int 0, .int 0])), (q1, .inl (cH, 4, .inr (.inr (.inr (.inr (va_up (va_up (va_up (va_up (fun _ => none) (0 : Int32).toNatClampNeg (some (u1.1 0))) (1 : Int32).toNatClampNeg (some (u2.1 0))) (2 : Int32).toNatClampNeg (some (u3.1 0))) (3 : Int32).toNatClampNeg (some (u4.1 0))))))))]) rfl ?_
  refine b_aload_n hC dX1_init_43 rfl 1 rfl ?_
  refine b_iconst (v := 0) hC dX1_init_44 (by decide) ?_
  refine b_put (C := RX1) (T := TX1) (N := 3) (ci := 1) (ty := tyX1) (fs := [.ref q1, .int 0, .int 0]) hC hi tyX1_ok nmX1 0 rfl rfl 2 (by decide) (by decide +kernel) rfl rfl rfl (Nat.le_of_ble_eq_true rfl) dX1_init_45 ?_
  refine b_nf (X' := [(b, .inr (1, [.ref q1, .int 0, .int 0])), (q1, .inl (cH, 4, .inr (.inr (.inr (.inr (va_up (va_up (va_up (va_up (fun _ => none) (0 : Int32).toNatClampNeg (some (u1.1 0))) (1 : Int32).toNatClampNeg (some (u2.1 0))) (2 : Int32).toNatClampNeg (some (u3.1 0))) (3 : Int32).toNatClampNeg (some (u4.1 0))))))))]) rfl ?_
  exact b_ret hC (u := ((b, q1), (u1, u2, u3, u4), va_up (va_up (va_up (va_up (fun _ => none) (0 : Int32).toNatClampNeg (some (u1.1 0))) (1 : Int32).toNatClampNeg (some (u2.1 0))) (2 : Int32).toNatClampNeg (some (u3.1 0))) (3 : Int32).toNatClampNeg (some (u4.1 0)))) ⟨rfl, by
    funext j
    match j with
    | 0 => rfl
    | 1 => rfl
    | 2 => rfl
    | 3 => rfl
    | j + 4 => rfl, hu1, hu2, hu3, hu4⟩ rfl dX1_init_48
def tW (cI cZ cC cJ cY cH : ClassId) (a : Nat → Nat) : va_W := [(a 0, .inr (3, [.ref (a 1), .int 0, .int 0, .int 0, .int 0, .ref (a 2), .ref (a 3)])), (a 1, .inl (cC, 60, .inl (fun _ => 0))), (a 2, .inl (cI, 15, .inl (fun _ => 0))), (a 3, .inl (cI, 15, .inl (fun _ => 0)))]
def aP (b : Nat) (a : Nat → Nat) : Prop := a 0 = b
abbrev rkX3 : Room := { frames := 1, cells := 3, slots := 90, locals := 23 }
set_option maxRecDepth 100000 in
set_option maxHeartbeats 4000000 in
theorem kX3 {l : Launch} {D : va_G} {cI cZ cC cJ cY cH : ClassId} {b : Nat} : bM l yX3_init wsX3_init rkX3 vwCl D (bT cI cZ cC cJ cY cH) 3 [.null, .int 0, .int 0, .int 0, .int 0, .null, .null] 3 90 (S := (Nat → Nat)) (aP b) (tW cI cZ cC cJ cY cH) b := by
  refine b_start (cc := cX3_init) (maxL := 1) (by decide) rfl rfl (by decide) ?_
  intro p e s m args below meth c A hC
  have hi : ∀ w ∈ u_ws RX3 TX3 7, w ∈ wsX3_init := by decide +kernel
  refine b_aload_n hC dX3_init_0 rfl 0 rfl ?_
  refine b_obj hC (by decide +kernel) (by decide +kernel) (by decide +kernel) dX3_init_1 (Nat.le_of_ble_eq_true rfl) (Nat.le_of_ble_eq_true rfl) ?_
  refine b_aload_n hC dX3_init_4 rfl 0 rfl ?_
  refine b_bipush (v := 60) hC dX3_init_5 (by decide) ?_
  refine b_newa (atype := .char) (ty := .char) (t0 := 2) (N' := 60) (a0 := (60, .inl (fun _ => 0))) hC (by decide +kernel) rfl rfl (fun _ => rfl) (by decide) rfl (Nat.le_of_ble_eq_true rfl) (Nat.le_of_ble_eq_true rfl) (Nat.le_of_ble_eq_true rfl) dX3_init_7 (fun q1 => ?_)
  refine b_nf (X' := [(b, .inr (3, [.null, .int 0, .int 0, .int 0, .int 0, .null, .null])), (q1, .inl (cC, 60, .inl (fun _ => 0)))]) rfl ?_
  refine b_putF (C := RX3) (T := TX3) (N := 7) (ci := 3) (ty := tyX3) (fs := [.null, .int 0, .int 0, .int 0, .int 0, .null, .null]) hC hi tyX3_ok nmX3 0 rfl rfl 0 (by decide) (by decide +kernel) rfl rfl rfl rfl (Nat.le_of_ble_eq_true rfl) dX3_init_9 ?_
  refine b_nf (X' := [(b, .inr (3, [.ref q1, .int 0, .int 0, .int 0, .int 0, .null, .null])), (q1, .inl (cC, 60, .inl (fun _ => 0)))]) rfl ?_
  refine b_aload_n hC dX3_init_12 rfl 0 rfl ?_
  refine b_iconst (v := 0) hC dX3_init_13 (by decide) ?_
  refine b_put (C := RX3) (T := TX3) (N := 7) (ci := 3) (ty := tyX3) (fs := [.ref q1, .int 0, .int 0, .int 0, .int 0, .null, .null]) hC hi tyX3_ok nmX3 0 rfl rfl 1 (by decide) (by decide +kernel) rfl rfl rfl (Nat.le_of_ble_eq_true rfl) dX3_init_14 ?_
  refine b_nf (X' := [(b, .inr (3, [.ref q1, .int 0, .int 0, .int 0, .int 0, .null, .null])), (q1, .inl (cC, 60, .inl (fun _ => 0)))]) rfl ?_
  refine b_aload_n hC dX3_init_17 rfl 0 rfl ?_
  refine b_iconst (v := 0) hC dX3_init_18 (by decide) ?_
  refine b_put (C := RX3) (T := TX3) (N := 7) (ci := 3) (ty := tyX3) (fs := [.ref q1, .int 0, .int 0, .int 0, .int 0, .null, .null]) hC hi tyX3_ok nmX3 0 rfl rfl 2 (by decide) (by decide +kernel) rfl rfl rfl (Nat.le_of_ble_eq_true rfl) dX3_init_19 ?_
  refine b_nf (X' := [(b, .inr (3, [.ref q1, .int 0, .int 0, .int 0, .int 0, .null, .null])), (q1, .inl (cC, 60, .inl (fun _ => 0)))]) rfl ?_
  refine b_aload_n hC dX3_init_22 rfl 0 rfl ?_
  refine b_iconst (v := 0) hC dX3_init_23 (by decide) ?_
  refine b_put (C := RX3) (T := TX3) (N := 7) (ci := 3) (ty := tyX3) (fs := [.ref q1, .int 0, .int 0, .int 0, .int 0, .null, .null]) hC hi tyX3_ok nmX3 0 rfl rfl 3 (by decide) (by decide +kernel) rfl rfl rfl (Nat.le_of_ble_eq_true rfl) dX3_init_24 ?_
  refine b_nf (X' := [(b, .inr (3, [.ref q1, .int 0, .int 0, .int 0, .int 0, .null, .null])), (q1, .inl (cC, 60, .inl (fun _ => 0)))]) rfl ?_
  refine b_aload_n hC dX3_init_27 rfl 0 rfl ?_
  refine b_iconst (v := 0) hC dX3_init_28 (by decide) ?_
  refine b_put (C := RX3) (T := TX3) (N := 7) (ci := 3) (ty := tyX3) (fs := [.ref q1, .int 0, .int 0, .int 0, .int 0, .null, .null]) hC hi tyX3_ok nmX3 0 rfl rfl 4 (by decide) (by decide +kernel) rfl rfl rfl (Nat.le_of_ble_eq_true rfl) dX3_init_29 ?_
  refine b_nf (X' := [(b, .inr (3, [.ref q1, .int 0, .int 0, .int 0, .int 0, .null, .null])), (q1, .inl (cC, 60, .inl (fun _ => 0)))]) rfl ?_
  refine b_aload_n hC dX3_init_32 rfl 0 rfl ?_
  refine b_bipush (v := 15) hC dX3_init_33 (by decide) ?_
  refine b_newa (atype := .int) (ty := .int) (t0 := 0) (N' := 15) (a0 := (15, .inl (fun _ => 0))) hC (by decide +kernel) rfl rfl (fun _ => rfl) (by decide) rfl (Nat.le_of_ble_eq_true rfl) (Nat.le_of_ble_eq_true rfl) (Nat.le_of_ble_eq_true rfl) dX3_init_35 (fun q2 => ?_)
  refine b_nf (X' := [(b, .inr (3, [.ref q1, .int 0, .int 0, .int 0, .int 0, .null, .null])), (q1, .inl (cC, 60, .inl (fun _ => 0))), (q2, .inl (cI, 15, .inl (fun _ => 0)))]) rfl ?_
  refine b_putF (C := RX3) (T := TX3) (N := 7) (ci := 3) (ty := tyX3) (fs := [.ref q1, .int 0, .int 0, .int 0, .int 0, .null, .null]) hC hi tyX3_ok nmX3 0 rfl rfl 5 (by decide) (by decide +kernel) rfl rfl rfl rfl (Nat.le_of_ble_eq_true rfl) dX3_init_37 ?_
  refine b_nf (X' := [(b, .inr (3, [.ref q1, .int 0, .int 0, .int 0, .int 0, .ref q2, .null])), (q1, .inl (cC, 60, .inl (fun _ => 0))), (q2, .inl (cI, 15, .inl (fun _ => 0)))]) rfl ?_
  refine b_aload_n hC dX3_init_40 rfl 0 rfl ?_
  refine b_bipush (v := 15) hC dX3_init_41 (by decide) ?_
  refine b_newa (atype := .int) (ty := .int) (t0 := 0) (N' := 15) (a0 := (15, .inl (fun _ => 0))) hC (by decide +kernel) rfl rfl (fun _ => rfl) (by decide) rfl (Nat.le_of_ble_eq_true rfl) (Nat.le_of_ble_eq_true rfl) (Nat.le_of_ble_eq_true rfl) dX3_init_43 (fun q3 => ?_)
  refine b_nf (X' := [(b, .inr (3, [.ref q1, .int 0, .int 0, .int 0, .int 0, .ref q2, .null])), (q1, .inl (cC, 60, .inl (fun _ => 0))), (q2, .inl (cI, 15, .inl (fun _ => 0))), (q3, .inl (cI, 15, .inl (fun _ => 0)))]) rfl ?_
  refine b_putF (C := RX3) (T := TX3) (N := 7) (ci := 3) (ty := tyX3) (fs := [.ref q1, .int 0, .int 0, .int 0, .int 0, .ref q2, .null]) hC hi tyX3_ok nmX3 0 rfl rfl 6 (by decide) (by decide +kernel) rfl rfl rfl rfl (Nat.le_of_ble_eq_true rfl) dX3_init_45 ?_
  refine b_nf (X' := [(b, .inr (3, [.ref q1, .int 0, .int 0, .int 0, .int 0, .ref q2, .ref q3])), (q1, .inl (cC, 60, .inl (fun _ => 0))), (q2, .inl (cI, 15, .inl (fun _ => 0))), (q3, .inl (cI, 15, .inl (fun _ => 0)))]) rfl ?_
  exact b_ret hC (u := fun k => [b, q1, q2, q3].getD k 0) rfl rfl dX3_init_48
def cW (cI cZ cC cJ cY cH : ClassId) (a : Nat → Nat) : va_W := [(a 0, .inr (0, [.ref (a 1), .ref (a 2), .ref (a 3), .ref (a 4), .ref (a 5)])), (a 1, .inl (cI, 8, .inl (fun _ => 0))), (a 2, .inl (cI, 8, .inl (fun _ => 0))), (a 3, .inl (cI, 8, .inl (fun _ => 0))), (a 4, .inl (cI, 16, .inl (fun _ => 0))), (a 5, .inl (cJ, 8, .inr (.inl (fun _ => 0))))]
abbrev rkX0 : Room := { frames := 1, cells := 5, slots := 48, locals := 23 }
set_option maxRecDepth 100000 in
set_option maxHeartbeats 4000000 in
theorem kX0 {l : Launch} {D : va_G} {cI cZ cC cJ cY cH : ClassId} {b : Nat} : bM l yX0_init wsX0_init rkX0 vwCl D (bT cI cZ cC cJ cY cH) 0 [.null, .null, .null, .null, .null] 5 48 (S := (Nat → Nat)) (aP b) (cW cI cZ cC cJ cY cH) b := by
  refine b_start (cc := cX0_init) (maxL := 1) (by decide) rfl rfl (by decide) ?_
  intro p e s m args below meth c A hC
  have hi : ∀ w ∈ u_ws RX0 TX0 5, w ∈ wsX0_init := by decide +kernel
  refine b_aload_n hC dX0_init_0 rfl 0 rfl ?_
  refine b_obj hC (by decide +kernel) (by decide +kernel) (by decide +kernel) dX0_init_1 (Nat.le_of_ble_eq_true rfl) (Nat.le_of_ble_eq_true rfl) ?_
  refine b_aload_n hC dX0_init_4 rfl 0 rfl ?_
  refine b_bipush (v := 8) hC dX0_init_5 (by decide) ?_
  refine b_newa (atype := .int) (ty := .int) (t0 := 0) (N' := 8) (a0 := (8, .inl (fun _ => 0))) hC (by decide +kernel) rfl rfl (fun _ => rfl) (by decide) rfl (Nat.le_of_ble_eq_true rfl) (Nat.le_of_ble_eq_true rfl) (Nat.le_of_ble_eq_true rfl) dX0_init_7 (fun q1 => ?_)
  refine b_nf (X' := [(b, .inr (0, [.null, .null, .null, .null, .null])), (q1, .inl (cI, 8, .inl (fun _ => 0)))]) rfl ?_
  refine b_putF (C := RX0) (T := TX0) (N := 5) (ci := 0) (ty := tyX0) (fs := [.null, .null, .null, .null, .null]) hC hi tyX0_ok nmX0 0 rfl rfl 0 (by decide) (by decide +kernel) rfl rfl rfl rfl (Nat.le_of_ble_eq_true rfl) dX0_init_9 ?_
  refine b_nf (X' := [(b, .inr (0, [.ref q1, .null, .null, .null, .null])), (q1, .inl (cI, 8, .inl (fun _ => 0)))]) rfl ?_
  refine b_aload_n hC dX0_init_12 rfl 0 rfl ?_
  refine b_bipush (v := 8) hC dX0_init_13 (by decide) ?_
  refine b_newa (atype := .int) (ty := .int) (t0 := 0) (N' := 8) (a0 := (8, .inl (fun _ => 0))) hC (by decide +kernel) rfl rfl (fun _ => rfl) (by decide) rfl (Nat.le_of_ble_eq_true rfl) (Nat.le_of_ble_eq_true rfl) (Nat.le_of_ble_eq_true rfl) dX0_init_15 (fun q2 => ?_)
  refine b_nf (X' := [(b, .inr (0, [.ref q1, .null, .null, .null, .null])), (q1, .inl (cI, 8, .inl (fun _ => 0))), (q2, .inl (cI, 8, .inl (fun _ => 0)))]) rfl ?_
  refine b_putF (C := RX0) (T := TX0) (N := 5) (ci := 0) (ty := tyX0) (fs := [.ref q1, .null, .null, .null, .null]) hC hi tyX0_ok nmX0 0 rfl rfl 1 (by decide) (by decide +kernel) rfl rfl rfl rfl (Nat.le_of_ble_eq_true rfl) dX0_init_17 ?_
  refine b_nf (X' := [(b, .inr (0, [.ref q1, .ref q2, .null, .null, .null])), (q1, .inl (cI, 8, .inl (fun _ => 0))), (q2, .inl (cI, 8, .inl (fun _ => 0)))]) rfl ?_
  refine b_aload_n hC dX0_init_20 rfl 0 rfl ?_
  refine b_bipush (v := 8) hC dX0_init_21 (by decide) ?_
  refine b_newa (atype := .int) (ty := .int) (t0 := 0) (N' := 8) (a0 := (8, .inl (fun _ => 0))) hC (by decide +kernel) rfl rfl (fun _ => rfl) (by decide) rfl (Nat.le_of_ble_eq_true rfl) (Nat.le_of_ble_eq_true rfl) (Nat.le_of_ble_eq_true rfl) dX0_init_23 (fun q3 => ?_)
  refine b_nf (X' := [(b, .inr (0, [.ref q1, .ref q2, .null, .null, .null])), (q1, .inl (cI, 8, .inl (fun _ => 0))), (q2, .inl (cI, 8, .inl (fun _ => 0))), (q3, .inl (cI, 8, .inl (fun _ => 0)))]) rfl ?_
  refine b_putF (C := RX0) (T := TX0) (N := 5) (ci := 0) (ty := tyX0) (fs := [.ref q1, .ref q2, .null, .null, .null]) hC hi tyX0_ok nmX0 0 rfl rfl 2 (by decide) (by decide +kernel) rfl rfl rfl rfl (Nat.le_of_ble_eq_true rfl) dX0_init_25 ?_
  refine b_nf (X' := [(b, .inr (0, [.ref q1, .ref q2, .ref q3, .null, .null])), (q1, .inl (cI, 8, .inl (fun _ => 0))), (q2, .inl (cI, 8, .inl (fun _ => 0))), (q3, .inl (cI, 8, .inl (fun _ => 0)))]) rfl ?_
  refine b_aload_n hC dX0_init_28 rfl 0 rfl ?_
  refine b_bipush (v := 16) hC dX0_init_29 (by decide) ?_
  refine b_newa (atype := .int) (ty := .int) (t0 := 0) (N' := 16) (a0 := (16, .inl (fun _ => 0))) hC (by decide +kernel) rfl rfl (fun _ => rfl) (by decide) rfl (Nat.le_of_ble_eq_true rfl) (Nat.le_of_ble_eq_true rfl) (Nat.le_of_ble_eq_true rfl) dX0_init_31 (fun q4 => ?_)
  refine b_nf (X' := [(b, .inr (0, [.ref q1, .ref q2, .ref q3, .null, .null])), (q1, .inl (cI, 8, .inl (fun _ => 0))), (q2, .inl (cI, 8, .inl (fun _ => 0))), (q3, .inl (cI, 8, .inl (fun _ => 0))), (q4, .inl (cI, 16, .inl (fun _ => 0)))]) rfl ?_
  refine b_putF (C := RX0) (T := TX0) (N := 5) (ci := 0) (ty := tyX0) (fs := [.ref q1, .ref q2, .ref q3, .null, .null]) hC hi tyX0_ok nmX0 0 rfl rfl 3 (by decide) (by decide +kernel) rfl rfl rfl rfl (Nat.le_of_ble_eq_true rfl) dX0_init_33 ?_
  refine b_nf (X' := [(b, .inr (0, [.ref q1, .ref q2, .ref q3, .ref q4, .null])), (q1, .inl (cI, 8, .inl (fun _ => 0))), (q2, .inl (cI, 8, .inl (fun _ => 0))), (q3, .inl (cI, 8, .inl (fun _ => 0))), (q4, .inl (cI, 16, .inl (fun _ => 0)))]) rfl ?_
  refine b_aload_n hC dX0_init_36 rfl 0 rfl ?_
  refine b_bipush (v := 8) hC dX0_init_37 (by decide) ?_
  refine b_newa (atype := .long) (ty := .long) (t0 := 3) (N' := 8) (a0 := (8, .inr (.inl (fun _ => 0)))) hC (by decide +kernel) rfl rfl (fun _ => rfl) (by decide) rfl (Nat.le_of_ble_eq_true rfl) (Nat.le_of_ble_eq_true rfl) (Nat.le_of_ble_eq_true rfl) dX0_init_39 (fun q5 => ?_)
  refine b_nf (X' := [(b, .inr (0, [.ref q1, .ref q2, .ref q3, .ref q4, .null])), (q1, .inl (cI, 8, .inl (fun _ => 0))), (q2, .inl (cI, 8, .inl (fun _ => 0))), (q3, .inl (cI, 8, .inl (fun _ => 0))), (q4, .inl (cI, 16, .inl (fun _ => 0))), (q5, .inl (cJ, 8, .inr (.inl (fun _ => 0))))]) rfl ?_
  refine b_putF (C := RX0) (T := TX0) (N := 5) (ci := 0) (ty := tyX0) (fs := [.ref q1, .ref q2, .ref q3, .ref q4, .null]) hC hi tyX0_ok nmX0 0 rfl rfl 4 (by decide) (by decide +kernel) rfl rfl rfl rfl (Nat.le_of_ble_eq_true rfl) dX0_init_41 ?_
  refine b_nf (X' := [(b, .inr (0, [.ref q1, .ref q2, .ref q3, .ref q4, .ref q5])), (q1, .inl (cI, 8, .inl (fun _ => 0))), (q2, .inl (cI, 8, .inl (fun _ => 0))), (q3, .inl (cI, 8, .inl (fun _ => 0))), (q4, .inl (cI, 16, .inl (fun _ => 0))), (q5, .inl (cJ, 8, .inr (.inl (fun _ => 0))))]) rfl ?_
  exact b_ret hC (u := fun k => [b, q1, q2, q3, q4, q5].getD k 0) rfl rfl dX0_init_44
abbrev xS : Type := Nat × (hS × hS) × iS × (Nat → Nat) × (Nat → Nat)
def xW (cI cZ cC cJ cY cH : ClassId) (u : xS) : va_W := [(u.1, .inr (5, [.ref (u.2.1.1.1 0), .ref (u.2.1.2.1 0), .int 0, .ref u.2.2.1.1.1, .ref (u.2.2.2.1 0), .ref (u.2.2.2.2 0)]))] ++ (cW cI cZ cC cJ cY cH u.2.2.2.2 ++ (tW cI cZ cC cJ cY cH u.2.2.2.1 ++ (iW cI cZ cC cJ cY cH u.2.2.1 ++ (hW cI cZ cC cJ cY cH u.2.1.2 ++ (hW cI cZ cC cJ cY cH u.2.1.1 ++ [])))))
def xP (b : Nat) (u : xS) : Prop := u.1 = b ∧ hF u.2.1.1 ∧ hF u.2.1.2 ∧ (u.2.2.1.2.2 = fun j => [u.2.2.1.2.1.1.1 0, u.2.2.1.2.1.2.1.1 0, u.2.2.1.2.1.2.2.1.1 0, u.2.2.1.2.1.2.2.2.1 0][j]?) ∧ hF u.2.2.1.2.1.1 ∧ hF u.2.2.1.2.1.2.1 ∧ hF u.2.2.1.2.1.2.2.1 ∧ hF u.2.2.1.2.1.2.2.2
abbrev rkX5 : Room := { frames := 5, cells := 240, slots := 3181, locals := 170 }
set_option maxRecDepth 100000 in
set_option maxHeartbeats 4000000 in
theorem kX5 {l : Launch} {D : va_G} {cI cZ cC cJ cY cH : ClassId} {b : Nat} : bM l yX5_init wsX5_init rkX5 vwCl D (bT cI cZ cC cJ cY cH) 5 [.null, .null, .int 0, .null, .null, .null] 240 3181 (S := xS) (xP b) (xW cI cZ cC cJ cY cH) b := by
  refine b_start (cc := cX5_init) (maxL := 1) (by decide) rfl rfl (by decide) ?_
  intro p e s m args below meth c A hC
  have hi : ∀ w ∈ u_ws RX5 TX5 6, w ∈ wsX5_init := by decide +kernel
  refine b_aload_n hC dX5_init_0 rfl 0 rfl ?_
  refine b_obj hC (by decide +kernel) (by decide +kernel) (by decide +kernel) dX5_init_1 (Nat.le_of_ble_eq_true rfl) (Nat.le_of_ble_eq_true rfl) ?_
  refine b_aload_n hC dX5_init_4 rfl 0 rfl ?_
  refine b_new (C := RX2) (T := TX2) (N := 12) (ci := 2) (ty := tyX2) (fs := [.int 0, .null, .null, .null, .null, .null, .null, .int 0, .int 0, .null, .int 0, .null]) hC (by decide +kernel) tyX2_ok (by decide +kernel) (by decide +kernel) (by decide +kernel) rfl (vVX2) (Nat.le_of_ble_eq_true rfl) (Nat.le_of_ble_eq_true rfl) dX5_init_5 (fun q1 => ?_)
  refine b_dup hC dX5_init_8 rfl ?_
  refine b_call hC (kX2 (cI := cI) (cZ := cZ) (cC := cC) (cJ := cJ) (cY := cY) (cH := cH)) (cwI 0 hC.1.2.2.2.2 gX5_init_X2_init rfl rfl rfl (hC.1.2.2.2.2 _ (by decide +kernel)) (hC.1.2.2.2.2 _ (by decide +kernel)) (hC.1.2.2.2.2 _ (by decide +kernel)) rfl (by decide +kernel) ⟨Nat.le_of_ble_eq_true rfl, Nat.le_of_ble_eq_true rfl⟩) (Nat.le_of_ble_eq_true rfl) dX5_init_9 ⟨Nat.le_of_ble_eq_true rfl, Nat.le_of_ble_eq_true rfl⟩ (fun u1 hu1 => ?_)
  obtain ⟨rfl, hu1⟩ := hu1
  refine b_putF (C := RX5) (T := TX5) (N := 6) (ci := 5) (ty := tyX5) (fs := [.null, .null, .int 0, .null, .null, .null]) hC hi tyX5_ok nmX5 0 rfl rfl 0 (by decide) (by decide +kernel) rfl rfl rfl rfl (Nat.le_of_ble_eq_true rfl) dX5_init_12 ?_
  refine b_nf (X' := [(b, .inr (5, [.ref (u1.1 0), .null, .int 0, .null, .null, .null]))]) rfl ?_
  refine b_aload_n hC dX5_init_15 rfl 0 rfl ?_
  refine b_new (C := RX2) (T := TX2) (N := 12) (ci := 2) (ty := tyX2) (fs := [.int 0, .null, .null, .null, .null, .null, .null, .int 0, .int 0, .null, .int 0, .null]) hC (by decide +kernel) tyX2_ok (by decide +kernel) (by decide +kernel) (by decide +kernel) rfl (vVX2) (Nat.le_of_ble_eq_true rfl) (Nat.le_of_ble_eq_true rfl) dX5_init_16 (fun q2 => ?_)
  refine b_dup hC dX5_init_19 rfl ?_
  refine b_call hC (kX2 (cI := cI) (cZ := cZ) (cC := cC) (cJ := cJ) (cY := cY) (cH := cH)) (cwI 0 hC.1.2.2.2.2 gX5_init_X2_init rfl rfl rfl (hC.1.2.2.2.2 _ (by decide +kernel)) (hC.1.2.2.2.2 _ (by decide +kernel)) (hC.1.2.2.2.2 _ (by decide +kernel)) rfl (by decide +kernel) ⟨Nat.le_of_ble_eq_true rfl, Nat.le_of_ble_eq_true rfl⟩) (Nat.le_of_ble_eq_true rfl) dX5_init_20 ⟨Nat.le_of_ble_eq_true rfl, Nat.le_of_ble_eq_true rfl⟩ (fun u2 hu2 => ?_)
  obtain ⟨rfl, hu2⟩ := hu2
  refine b_putF (C := RX5) (T := TX5) (N := 6) (ci := 5) (ty := tyX5) (fs := [.ref (u1.1 0), .null, .int 0, .null, .null, .null]) hC hi tyX5_ok nmX5 0 rfl rfl 1 (by decide) (by decide +kernel) rfl rfl rfl rfl (Nat.le_of_ble_eq_true rfl) dX5_init_23 ?_
  refine b_nf (X' := [(b, .inr (5, [.ref (u1.1 0), .ref (u2.1 0), .int 0, .null, .null, .null]))]) rfl ?_
  refine b_aload_n hC dX5_init_26 rfl 0 rfl ?_
  refine b_iconst (v := 0) hC dX5_init_27 (by decide) ?_
  refine b_put (C := RX5) (T := TX5) (N := 6) (ci := 5) (ty := tyX5) (fs := [.ref (u1.1 0), .ref (u2.1 0), .int 0, .null, .null, .null]) hC hi tyX5_ok nmX5 0 rfl rfl 2 (by decide) (by decide +kernel) rfl rfl rfl (Nat.le_of_ble_eq_true rfl) dX5_init_28 ?_
  refine b_nf (X' := [(b, .inr (5, [.ref (u1.1 0), .ref (u2.1 0), .int 0, .null, .null, .null]))]) rfl ?_
  refine b_aload_n hC dX5_init_31 rfl 0 rfl ?_
  refine b_new (C := RX1) (T := TX1) (N := 3) (ci := 1) (ty := tyX1) (fs := [.null, .int 0, .int 0]) hC (by decide +kernel) tyX1_ok (by decide +kernel) (by decide +kernel) (by decide +kernel) rfl (vVX1) (Nat.le_of_ble_eq_true rfl) (Nat.le_of_ble_eq_true rfl) dX5_init_32 (fun q3 => ?_)
  refine b_dup hC dX5_init_35 rfl ?_
  refine b_call hC (kX1 (cI := cI) (cZ := cZ) (cC := cC) (cJ := cJ) (cY := cY) (cH := cH)) (cwI 0 hC.1.2.2.2.2 gX5_init_X1_init rfl rfl rfl (hC.1.2.2.2.2 _ (by decide +kernel)) (hC.1.2.2.2.2 _ (by decide +kernel)) (hC.1.2.2.2.2 _ (by decide +kernel)) rfl (by decide +kernel) ⟨Nat.le_of_ble_eq_true rfl, Nat.le_of_ble_eq_true rfl⟩) (Nat.le_of_ble_eq_true rfl) dX5_init_36 ⟨Nat.le_of_ble_eq_true rfl, Nat.le_of_ble_eq_true rfl⟩ (fun u3 hu3 => ?_)
  obtain ⟨rfl, hu3⟩ := hu3
  refine b_putF (C := RX5) (T := TX5) (N := 6) (ci := 5) (ty := tyX5) (fs := [.ref (u1.1 0), .ref (u2.1 0), .int 0, .null, .null, .null]) hC hi tyX5_ok nmX5 0 rfl rfl 3 (by decide) (by decide +kernel) rfl rfl rfl rfl (Nat.le_of_ble_eq_true rfl) dX5_init_39 ?_
  refine b_nf (X' := [(b, .inr (5, [.ref (u1.1 0), .ref (u2.1 0), .int 0, .ref u3.1.1, .null, .null]))]) rfl ?_
  refine b_aload_n hC dX5_init_42 rfl 0 rfl ?_
  refine b_new (C := RX3) (T := TX3) (N := 7) (ci := 3) (ty := tyX3) (fs := [.null, .int 0, .int 0, .int 0, .int 0, .null, .null]) hC (by decide +kernel) tyX3_ok (by decide +kernel) (by decide +kernel) (by decide +kernel) rfl (vVX3) (Nat.le_of_ble_eq_true rfl) (Nat.le_of_ble_eq_true rfl) dX5_init_43 (fun q4 => ?_)
  refine b_dup hC dX5_init_46 rfl ?_
  refine b_call hC (kX3 (cI := cI) (cZ := cZ) (cC := cC) (cJ := cJ) (cY := cY) (cH := cH)) (cwI 0 hC.1.2.2.2.2 gX5_init_X3_init rfl rfl rfl (hC.1.2.2.2.2 _ (by decide +kernel)) (hC.1.2.2.2.2 _ (by decide +kernel)) (hC.1.2.2.2.2 _ (by decide +kernel)) rfl (by decide +kernel) ⟨Nat.le_of_ble_eq_true rfl, Nat.le_of_ble_eq_true rfl⟩) (Nat.le_of_ble_eq_true rfl) dX5_init_47 ⟨Nat.le_of_ble_eq_true rfl, Nat.le_of_ble_eq_true rfl⟩ (fun u4 hu4 => ?_)
  obtain ⟨rfl, hu4⟩ := hu4
  refine b_putF (C := RX5) (T := TX5) (N := 6) (ci := 5) (ty := tyX5) (fs := [.ref (u1.1 0), .ref (u2.1 0), .int 0, .ref u3.1.1, .null, .null]) hC hi tyX5_ok nmX5 0 rfl rfl 4 (by decide) (by decide +kernel) rfl rfl rfl rfl (Nat.le_of_ble_eq_true rfl) dX5_init_50 ?_
  refine b_nf (X' := [(b, .inr (5, [.ref (u1.1 0), .ref (u2.1 0), .int 0, .ref u3.1.1, .ref (u4 0), .null]))]) rfl ?_
  refine b_aload_n hC dX5_init_53 rfl 0 rfl ?_
  refine b_new (C := RX0) (T := TX0) (N := 5) (ci := 0) (ty := tyX0) (fs := [.null, .null, .null, .null, .null]) hC (by decide +kernel) tyX0_ok (by decide +kernel) (by decide +kernel) (by decide +kernel) rfl (vVX0) (Nat.le_of_ble_eq_true rfl) (Nat.le_of_ble_eq_true rfl) dX5_init_54 (fun q5 => ?_)
  refine b_dup hC dX5_init_57 rfl ?_
  refine b_call hC (kX0 (cI := cI) (cZ := cZ) (cC := cC) (cJ := cJ) (cY := cY) (cH := cH)) (cwI 0 hC.1.2.2.2.2 gX5_init_X0_init rfl rfl rfl (hC.1.2.2.2.2 _ (by decide +kernel)) (hC.1.2.2.2.2 _ (by decide +kernel)) (hC.1.2.2.2.2 _ (by decide +kernel)) rfl (by decide +kernel) ⟨Nat.le_of_ble_eq_true rfl, Nat.le_of_ble_eq_true rfl⟩) (Nat.le_of_ble_eq_true rfl) dX5_init_58 ⟨Nat.le_of_ble_eq_true rfl, Nat.le_of_ble_eq_true rfl⟩ (fun u5 hu5 => ?_)
  obtain ⟨rfl, hu5⟩ := hu5
  refine b_putF (C := RX5) (T := TX5) (N := 6) (ci := 5) (ty := tyX5) (fs := [.ref (u1.1 0), .ref (u2.1 0), .int 0, .ref u3.1.1, .ref (u4 0), .null]) hC hi tyX5_ok nmX5 0 rfl rfl 5 (by decide) (by decide +kernel) rfl rfl rfl rfl (Nat.le_of_ble_eq_true rfl) dX5_init_61 ?_
  refine b_nf (X' := [(b, .inr (5, [.ref (u1.1 0), .ref (u2.1 0), .int 0, .ref u3.1.1, .ref (u4 0), .ref (u5 0)]))]) rfl ?_
  exact b_ret hC (u := (b, (u1, u2), u3, u4, u5)) ⟨rfl, hu1, hu2, hu3⟩ rfl dX5_init_64

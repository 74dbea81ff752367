/-! BUILDERS (4): a house -/
abbrev hS : Type := (Nat → Nat) × (Nat → Nat → Int32) × (Nat → Option Nat)
def hW (cI cZ cC cJ cY cH : ClassId) (u : hS) : va_W := (List.range 38).map (fun k => (u.1 k, if k = 7 then .inl (cY, 4, .inr (.inr (.inr (.inr u.2.2)))) else hb_E u.1 (bD cI cZ cC cJ cY cH (kxHs 0)) (kxHs 0) (u.2.1, fun _ _ => 0) k))
def hP (b : Nat) (u : hS) : Prop := u.1 0 = b ∧ (u.2.2 = fun j => ([14, 20, 26, 32][j]?).map u.1) ∧ (∀ k j, k < 8 → u.2.1 k j = 0) ∧ ∀ y, y < 5 → u.2.1 (8 + 6 * y) 0 = 0 ∧ u.2.1 (8 + 6 * y) 1 = 40 ∧ u.2.1 (8 + 6 * y) 2 = 0 ∧ (∀ j, j < 8 → u.2.1 (8 + 6 * y + 1) j = -5) ∧ (∀ j, j < 8 → u.2.1 (8 + 6 * y + 2) j = -5) ∧ ∀ i j, 3 ≤ i → i < 6 → u.2.1 (8 + 6 * y + i) j = 0
theorem kX2_0 (cI cZ cC cJ cY cH : ClassId) (u : hS) : (hW cI cZ cC cJ cY cH u)[0]? = some (u.1 0, hb_E u.1 (bD cI cZ cC cJ cY cH (kxHs 0)) (kxHs 0) (u.2.1, fun _ _ => 0) 0) := rfl
section BLD4
variable {p : Program} {l : Launch} {e : Env} {R : Room} {s : State} {m : MethodId} {args : Array Value} {below : List Frame} {meth : Method} {c : Code} {cc : ByteArray} {nL : Nat} {own : String} {Ts : List Cond} {cl : List vw_C} {D : va_G} {tys : List (ClassId × FieldType)} {A : Nat → Prop} {Q : State → Prop} {X pl X' : va_W} {cells slots pc : Nat} {lv : List (Nat × Value)} {st : List Value}
theorem b_sub (hC : bC p s m args meth c cc nL own Ts cl D tys A) (is : List Nat) (hn : va_nd is = true) (hs : is.map (fun i => (X ++ pl)[i]?) = X'.map some) (kk : bV p l e R s m args below meth c nL cl D A Q X' [] cells slots pc lv st) : bV p l e R s m args below meth c nL cl D A Q X pl cells slots pc lv st := fun ls hl H locs hP hD hS => kk ls hl H locs ((show va_P D cl ((X ++ pl) ++ []) H by rw [List.append_nil]; exact hP).part is hs) ((show va_D A ((X ++ pl) ++ []) by rw [List.append_nil]; exact hD).part is hn hs) hS
end BLD4
abbrev rkX2 : Room := { frames := 3, cells := 37, slots := 492, locals := 80 }
set_option maxRecDepth 100000 in
set_option maxHeartbeats 4000000 in
theorem kX2 {l : Launch} {D : va_G} {cI cZ cC cJ cY cH : ClassId} {b : Nat} : bM l yX2_init wsX2_init rkX2 vwCl D (bT cI cZ cC cJ cY cH) 2 [.int 0, .null, .null, .null, .null, .null, .null, .int 0, .int 0, .null, .int 0, .null] 37 492 (S := hS) (hP b) (hW cI cZ cC cJ cY cH) b := by
  refine b_start (cc := cX2_init) (maxL := 2) (by decide) rfl rfl (by decide) ?_
  intro p e s m args below meth c A hC
  have hi : ∀ w ∈ u_ws RX2 TX2 12, w ∈ wsX2_init := by decide +kernel
  refine b_aload_n hC dX2_init_0 rfl 0 rfl ?_
  refine b_obj hC (by decide +kernel) (by decide +kernel) (by decide +kernel) dX2_init_1 (Nat.le_of_ble_eq_true rfl) (Nat.le_of_ble_eq_true rfl) ?_
  refine b_aload_n hC dX2_init_4 rfl 0 rfl ?_
  refine b_iconst (v := 0) hC dX2_init_5 (by decide) ?_
  refine b_put (C := RX2) (T := TX2) (N := 12) (ci := 2) (ty := tyX2) (fs := [.int 0, .null, .null, .null, .null, .null, .null, .int 0, .int 0, .null, .int 0, .null]) hC hi tyX2_ok nmX2 0 rfl rfl 0 (by decide) (by decide +kernel) rfl rfl rfl (Nat.le_of_ble_eq_true rfl) dX2_init_6 ?_
  refine b_nf (X' := [(b, .inr (2, [.int 0, .null, .null, .null, .null, .null, .null, .int 0, .int 0, .null, .int 0, .null]))]) rfl ?_
  refine b_aload_n hC dX2_init_9 rfl 0 rfl ?_
  refine b_bipush (v := 8) hC dX2_init_10 (by decide) ?_
  refine b_newa (atype := .int) (ty := .int) (t0 := 0) (N' := 8) (a0 := (8, .inl (fun _ => 0))) hC (by decide +kernel) rfl rfl (fun _ => rfl) (by decide) rfl (Nat.le_of_ble_eq_true rfl) (Nat.le_of_ble_eq_true rfl) (Nat.le_of_ble_eq_true rfl) dX2_init_12 (fun q1 => ?_)
  refine b_nf (X' := [(b, .inr (2, [.int 0, .null, .null, .null, .null, .null, .null, .int 0, .int 0, .null, .int 0, .null])), (q1, .inl (cI, 8, .inl (fun _ => 0)))]) rfl ?_
  refine b_putF (C := RX2) (T := TX2) (N := 12) (ci := 2) (ty := tyX2) (fs := [.int 0, .null, .null, .null, .null, .null, .null, .int 0, .int 0, .null, .int 0, .null]) hC hi tyX2_ok nmX2 0 rfl rfl 1 (by decide) (by decide +kernel) rfl rfl rfl rfl (Nat.le_of_ble_eq_true rfl) dX2_init_14 ?_
  refine b_nf (X' := [(b, .inr (2, [.int 0, .ref q1, .null, .null, .null, .null, .null, .int 0, .int 0, .null, .int 0, .null])), (q1, .inl (cI, 8, .inl (fun _ => 0)))]) rfl ?_
  refine b_aload_n hC dX2_init_17 rfl 0 rfl ?_
  refine b_bipush (v := 20) hC dX2_init_18 (by decide) ?_
  refine b_newa (atype := .int) (ty := .int) (t0 := 0) (N' := 20) (a0 := (20, .inl (fun _ => 0))) hC (by decide +kernel) rfl rfl (fun _ => rfl) (by decide) rfl (Nat.le_of_ble_eq_true rfl) (Nat.le_of_ble_eq_true rfl) (Nat.le_of_ble_eq_true rfl) dX2_init_20 (fun q2 => ?_)
  refine b_nf (X' := [(b, .inr (2, [.int 0, .ref q1, .null, .null, .null, .null, .null, .int 0, .int 0, .null, .int 0, .null])), (q1, .inl (cI, 8, .inl (fun _ => 0))), (q2, .inl (cI, 20, .inl (fun _ => 0)))]) rfl ?_
  refine b_putF (C := RX2) (T := TX2) (N := 12) (ci := 2) (ty := tyX2) (fs := [.int 0, .ref q1, .null, .null, .null, .null, .null, .int 0, .int 0, .null, .int 0, .null]) hC hi tyX2_ok nmX2 0 rfl rfl 2 (by decide) (by decide +kernel) rfl rfl rfl rfl (Nat.le_of_ble_eq_true rfl) dX2_init_22 ?_
  refine b_nf (X' := [(b, .inr (2, [.int 0, .ref q1, .ref q2, .null, .null, .null, .null, .int 0, .int 0, .null, .int 0, .null])), (q1, .inl (cI, 8, .inl (fun _ => 0))), (q2, .inl (cI, 20, .inl (fun _ => 0)))]) rfl ?_
  refine b_aload_n hC dX2_init_25 rfl 0 rfl ?_
  refine b_bipush (v := 20) hC dX2_init_26 (by decide) ?_
  refine b_newa (atype := .int) (ty := .int) (t0 := 0) (N' := 20) (a0 := (20, .inl (fun _ => 0))) hC (by decide +kernel) rfl rfl (fun _ => rfl) (by decide) rfl (Nat.le_of_ble_eq_true rfl) (Nat.le_of_ble_eq_true rfl) (Nat.le_of_ble_eq_true rfl) dX2_init_28 (fun q3 => ?_)
  refine b_nf (X' := [(b, .inr (2, [.int 0, .ref q1, .ref q2, .null, .null, .null, .null, .int 0, .int 0, .null, .int 0, .null])), (q1, .inl (cI, 8, .inl (fun _ => 0))), (q2, .inl (cI, 20, .inl (fun _ => 0))), (q3, .inl (cI, 20, .inl (fun _ => 0)))]) rfl ?_
  refine b_putF (C := RX2) (T := TX2) (N := 12) (ci := 2) (ty := tyX2) (fs := [.int 0, .ref q1, .ref q2, .null, .null, .null, .null, .int 0, .int 0, .null, .int 0, .null]) hC hi tyX2_ok nmX2 0 rfl rfl 3 (by decide) (by decide +kernel) rfl rfl rfl rfl (Nat.le_of_ble_eq_true rfl) dX2_init_30 ?_
  refine b_nf (X' := [(b, .inr (2, [.int 0, .ref q1, .ref q2, .ref q3, .null, .null, .null, .int 0, .int 0, .null, .int 0, .null])), (q1, .inl (cI, 8, .inl (fun _ => 0))), (q2, .inl (cI, 20, .inl (fun _ => 0))), (q3, .inl (cI, 20, .inl (fun _ => 0)))]) rfl ?_
  refine b_aload_n hC dX2_init_33 rfl 0 rfl ?_
  refine b_bipush (v := 20) hC dX2_init_34 (by decide) ?_
  refine b_newa (atype := .int) (ty := .int) (t0 := 0) (N' := 20) (a0 := (20, .inl (fun _ => 0))) hC (by decide +kernel) rfl rfl (fun _ => rfl) (by decide) rfl (Nat.le_of_ble_eq_true rfl) (Nat.le_of_ble_eq_true rfl) (Nat.le_of_ble_eq_true rfl) dX2_init_36 (fun q4 => ?_)
  refine b_nf (X' := [(b, .inr (2, [.int 0, .ref q1, .ref q2, .ref q3, .null, .null, .null, .int 0, .int 0, .null, .int 0, .null])), (q1, .inl (cI, 8, .inl (fun _ => 0))), (q2, .inl (cI, 20, .inl (fun _ => 0))), (q3, .inl (cI, 20, .inl (fun _ => 0))), (q4, .inl (cI, 20, .inl (fun _ => 0)))]) rfl ?_
  refine b_putF (C := RX2) (T := TX2) (N := 12) (ci := 2) (ty := tyX2) (fs := [.int 0, .ref q1, .ref q2, .ref q3, .null, .null, .null, .int 0, .int 0, .null, .int 0, .null]) hC hi tyX2_ok nmX2 0 rfl rfl 4 (by decide) (by decide +kernel) rfl rfl rfl rfl (Nat.le_of_ble_eq_true rfl) dX2_init_38 ?_
  refine b_nf (X' := [(b, .inr (2, [.int 0, .ref q1, .ref q2, .ref q3, .ref q4, .null, .null, .int 0, .int 0, .null, .int 0, .null])), (q1, .inl (cI, 8, .inl (fun _ => 0))), (q2, .inl (cI, 20, .inl (fun _ => 0))), (q3, .inl (cI, 20, .inl (fun _ => 0))), (q4, .inl (cI, 20, .inl (fun _ => 0)))]) rfl ?_
  refine b_aload_n hC dX2_init_41 rfl 0 rfl ?_
  refine b_bipush (v := 20) hC dX2_init_42 (by decide) ?_
  refine b_newa (atype := .int) (ty := .int) (t0 := 0) (N' := 20) (a0 := (20, .inl (fun _ => 0))) hC (by decide +kernel) rfl rfl (fun _ => rfl) (by decide) rfl (Nat.le_of_ble_eq_true rfl) (Nat.le_of_ble_eq_true rfl) (Nat.le_of_ble_eq_true rfl) dX2_init_44 (fun q5 => ?_)
  refine b_nf (X' := [(b, .inr (2, [.int 0, .ref q1, .ref q2, .ref q3, .ref q4, .null, .null, .int 0, .int 0, .null, .int 0, .null])), (q1, .inl (cI, 8, .inl (fun _ => 0))), (q2, .inl (cI, 20, .inl (fun _ => 0))), (q3, .inl (cI, 20, .inl (fun _ => 0))), (q4, .inl (cI, 20, .inl (fun _ => 0))), (q5, .inl (cI, 20, .inl (fun _ => 0)))]) rfl ?_
  refine b_putF (C := RX2) (T := TX2) (N := 12) (ci := 2) (ty := tyX2) (fs := [.int 0, .ref q1, .ref q2, .ref q3, .ref q4, .null, .null, .int 0, .int 0, .null, .int 0, .null]) hC hi tyX2_ok nmX2 0 rfl rfl 5 (by decide) (by decide +kernel) rfl rfl rfl rfl (Nat.le_of_ble_eq_true rfl) dX2_init_46 ?_
  refine b_nf (X' := [(b, .inr (2, [.int 0, .ref q1, .ref q2, .ref q3, .ref q4, .ref q5, .null, .int 0, .int 0, .null, .int 0, .null])), (q1, .inl (cI, 8, .inl (fun _ => 0))), (q2, .inl (cI, 20, .inl (fun _ => 0))), (q3, .inl (cI, 20, .inl (fun _ => 0))), (q4, .inl (cI, 20, .inl (fun _ => 0))), (q5, .inl (cI, 20, .inl (fun _ => 0)))]) rfl ?_
  refine b_aload_n hC dX2_init_49 rfl 0 rfl ?_
  refine b_bipush (v := 20) hC dX2_init_50 (by decide) ?_
  refine b_newa (atype := .boolean) (ty := .boolean) (t0 := 1) (N' := 20) (a0 := (20, .inl (fun _ => 0))) hC (by decide +kernel) rfl rfl (fun _ => rfl) (by decide) rfl (Nat.le_of_ble_eq_true rfl) (Nat.le_of_ble_eq_true rfl) (Nat.le_of_ble_eq_true rfl) dX2_init_52 (fun q6 => ?_)
  refine b_nf (X' := [(b, .inr (2, [.int 0, .ref q1, .ref q2, .ref q3, .ref q4, .ref q5, .null, .int 0, .int 0, .null, .int 0, .null])), (q1, .inl (cI, 8, .inl (fun _ => 0))), (q2, .inl (cI, 20, .inl (fun _ => 0))), (q3, .inl (cI, 20, .inl (fun _ => 0))), (q4, .inl (cI, 20, .inl (fun _ => 0))), (q5, .inl (cI, 20, .inl (fun _ => 0))), (q6, .inl (cZ, 20, .inl (fun _ => 0)))]) rfl ?_
  refine b_putF (C := RX2) (T := TX2) (N := 12) (ci := 2) (ty := tyX2) (fs := [.int 0, .ref q1, .ref q2, .ref q3, .ref q4, .ref q5, .null, .int 0, .int 0, .null, .int 0, .null]) hC hi tyX2_ok nmX2 0 rfl rfl 6 (by decide) (by decide +kernel) rfl rfl rfl rfl (Nat.le_of_ble_eq_true rfl) dX2_init_54 ?_
  refine b_nf (X' := [(b, .inr (2, [.int 0, .ref q1, .ref q2, .ref q3, .ref q4, .ref q5, .ref q6, .int 0, .int 0, .null, .int 0, .null])), (q1, .inl (cI, 8, .inl (fun _ => 0))), (q2, .inl (cI, 20, .inl (fun _ => 0))), (q3, .inl (cI, 20, .inl (fun _ => 0))), (q4, .inl (cI, 20, .inl (fun _ => 0))), (q5, .inl (cI, 20, .inl (fun _ => 0))), (q6, .inl (cZ, 20, .inl (fun _ => 0)))]) rfl ?_
  refine b_aload_n hC dX2_init_57 rfl 0 rfl ?_
  refine b_iconst (v := 0) hC dX2_init_58 (by decide) ?_
  refine b_put (C := RX2) (T := TX2) (N := 12) (ci := 2) (ty := tyX2) (fs := [.int 0, .ref q1, .ref q2, .ref q3, .ref q4, .ref q5, .ref q6, .int 0, .int 0, .null, .int 0, .null]) hC hi tyX2_ok nmX2 0 rfl rfl 7 (by decide) (by decide +kernel) rfl rfl rfl (Nat.le_of_ble_eq_true rfl) dX2_init_59 ?_
  refine b_nf (X' := [(b, .inr (2, [.int 0, .ref q1, .ref q2, .ref q3, .ref q4, .ref q5, .ref q6, .int 0, .int 0, .null, .int 0, .null])), (q1, .inl (cI, 8, .inl (fun _ => 0))), (q2, .inl (cI, 20, .inl (fun _ => 0))), (q3, .inl (cI, 20, .inl (fun _ => 0))), (q4, .inl (cI, 20, .inl (fun _ => 0))), (q5, .inl (cI, 20, .inl (fun _ => 0))), (q6, .inl (cZ, 20, .inl (fun _ => 0)))]) rfl ?_
  refine b_aload_n hC dX2_init_62 rfl 0 rfl ?_
  refine b_iconst (v := 0) hC dX2_init_63 (by decide) ?_
  refine b_put (C := RX2) (T := TX2) (N := 12) (ci := 2) (ty := tyX2) (fs := [.int 0, .ref q1, .ref q2, .ref q3, .ref q4, .ref q5, .ref q6, .int 0, .int 0, .null, .int 0, .null]) hC hi tyX2_ok nmX2 0 rfl rfl 8 (by decide) (by decide +kernel) rfl rfl rfl (Nat.le_of_ble_eq_true rfl) dX2_init_64 ?_
  refine b_nf (X' := [(b, .inr (2, [.int 0, .ref q1, .ref q2, .ref q3, .ref q4, .ref q5, .ref q6, .int 0, .int 0, .null, .int 0, .null])), (q1, .inl (cI, 8, .inl (fun _ => 0))), (q2, .inl (cI, 20, .inl (fun _ => 0))), (q3, .inl (cI, 20, .inl (fun _ => 0))), (q4, .inl (cI, 20, .inl (fun _ => 0))), (q5, .inl (cI, 20, .inl (fun _ => 0))), (q6, .inl (cZ, 20, .inl (fun _ => 0)))]) rfl ?_
  refine b_aload_n hC dX2_init_67 rfl 0 rfl ?_
  refine b_new (C := RX4) (T := TX4) (N := 8) (ci := 4) (ty := tyX4) (fs := [.int 0, .int 0, .int 0, .null, .null, .null, .null, .null]) hC (by decide +kernel) tyX4_ok (by decide +kernel) (by decide +kernel) (by decide +kernel) rfl (vVX4) (Nat.le_of_ble_eq_true rfl) (Nat.le_of_ble_eq_true rfl) dX2_init_68 (fun q7 => ?_)
  refine b_dup hC dX2_init_71 rfl ?_
  refine b_call hC (kX4 (cI := cI) (cZ := cZ) (cC := cC) (cJ := cJ) (cY := cY) (cH := cH)) (cwI 0 hC.1.2.2.2.2 gX2_init_X4_init rfl rfl rfl (hC.1.2.2.2.2 _ (by decide +kernel)) (hC.1.2.2.2.2 _ (by decide +kernel)) (hC.1.2.2.2.2 _ (by decide +kernel)) rfl (by decide +kernel) ⟨Nat.le_of_ble_eq_true rfl, Nat.le_of_ble_eq_true rfl⟩) (Nat.le_of_ble_eq_true rfl) dX2_init_72 ⟨Nat.le_of_ble_eq_true rfl, Nat.le_of_ble_eq_true rfl⟩ (fun u1 hu1 => ?_)
  obtain ⟨rfl, hu1⟩ := hu1
  refine b_putF (C := RX2) (T := TX2) (N := 12) (ci := 2) (ty := tyX2) (fs := [.int 0, .ref q1, .ref q2, .ref q3, .ref q4, .ref q5, .ref q6, .int 0, .int 0, .null, .int 0, .null]) hC hi tyX2_ok nmX2 0 rfl rfl 9 (by decide) (by decide +kernel) rfl rfl rfl rfl (Nat.le_of_ble_eq_true rfl) dX2_init_75 ?_
  refine b_nf (X' := [(b, .inr (2, [.int 0, .ref q1, .ref q2, .ref q3, .ref q4, .ref q5, .ref q6, .int 0, .int 0, .ref (u1.1 0), .int 0, .null])), (q1, .inl (cI, 8, .inl (fun _ => 0))), (q2, .inl (cI, 20, .inl (fun _ => 0))), (q3, .inl (cI, 20, .inl (fun _ => 0))), (q4, .inl (cI, 20, .inl (fun _ => 0))), (q5, .inl (cI, 20, .inl (fun _ => 0))), (q6, .inl (cZ, 20, .inl (fun _ => 0)))]) rfl ?_
  refine b_aload_n hC dX2_init_78 rfl 0 rfl ?_
  refine b_iconst (v := 0) hC dX2_init_79 (by decide) ?_
  refine b_put (C := RX2) (T := TX2) (N := 12) (ci := 2) (ty := tyX2) (fs := [.int 0, .ref q1, .ref q2, .ref q3, .ref q4, .ref q5, .ref q6, .int 0, .int 0, .ref (u1.1 0), .int 0, .null]) hC hi tyX2_ok nmX2 0 rfl rfl 10 (by decide) (by decide +kernel) rfl rfl rfl (Nat.le_of_ble_eq_true rfl) dX2_init_80 ?_
  refine b_nf (X' := [(b, .inr (2, [.int 0, .ref q1, .ref q2, .ref q3, .ref q4, .ref q5, .ref q6, .int 0, .int 0, .ref (u1.1 0), .int 0, .null])), (q1, .inl (cI, 8, .inl (fun _ => 0))), (q2, .inl (cI, 20, .inl (fun _ => 0))), (q3, .inl (cI, 20, .inl (fun _ => 0))), (q4, .inl (cI, 20, .inl (fun _ => 0))), (q5, .inl (cI, 20, .inl (fun _ => 0))), (q6, .inl (cZ, 20, .inl (fun _ => 0)))]) rfl ?_
  refine b_aload_n hC dX2_init_83 rfl 0 rfl ?_
  refine b_iconst (v := 4) hC dX2_init_84 (by decide) ?_
  refine b_newq (C := RX4) (t0 := 4) (N' := 4) hC (by decide +kernel) hC.2.2.2.2.2.2.1 rfl (by decide) rfl (Nat.le_of_ble_eq_true rfl) (Nat.le_of_ble_eq_true rfl) (Nat.le_of_ble_eq_true rfl) dX2_init_85 (fun q8 => ?_)
  refine b_nf (X' := [(b, .inr (2, [.int 0, .ref q1, .ref q2, .ref q3, .ref q4, .ref q5, .ref q6, .int 0, .int 0, .ref (u1.1 0), .int 0, .null])), (q1, .inl (cI, 8, .inl (fun _ => 0))), (q2, .inl (cI, 20, .inl (fun _ => 0))), (q3, .inl (cI, 20, .inl (fun _ => 0))), (q4, .inl (cI, 20, .inl (fun _ => 0))), (q5, .inl (cI, 20, .inl (fun _ => 0))), (q6, .inl (cZ, 20, .inl (fun _ => 0))), (q8, .inl (cY, 4, .inr (.inr (.inr (.inr (fun _ => none))))))]) rfl ?_
  refine b_putF (C := RX2) (T := TX2) (N := 12) (ci := 2) (ty := tyX2) (fs := [.int 0, .ref q1, .ref q2, .ref q3, .ref q4, .ref q5, .ref q6, .int 0, .int 0, .ref (u1.1 0), .int 0, .null]) hC hi tyX2_ok nmX2 0 rfl rfl 11 (by decide) (by decide +kernel) rfl rfl rfl rfl (Nat.le_of_ble_eq_true rfl) dX2_init_88 ?_
  refine b_nf (X' := [(b, .inr (2, [.int 0, .ref q1, .ref q2, .ref q3, .ref q4, .ref q5, .ref q6, .int 0, .int 0, .ref (u1.1 0), .int 0, .ref q8])), (q1, .inl (cI, 8, .inl (fun _ => 0))), (q2, .inl (cI, 20, .inl (fun _ => 0))), (q3, .inl (cI, 20, .inl (fun _ => 0))), (q4, .inl (cI, 20, .inl (fun _ => 0))), (q5, .inl (cI, 20, .inl (fun _ => 0))), (q6, .inl (cZ, 20, .inl (fun _ => 0))), (q8, .inl (cY, 4, .inr (.inr (.inr (.inr (fun _ => none))))))]) rfl ?_
  refine b_iconst (v := 0) hC dX2_init_91 (by decide) ?_
  refine b_istore_n (lv' := [(1, .int 0), (0, .ref b)]) hC dX2_init_92 rfl (by decide) (by sorry) ?_
  refine b_iload_n hC dX2_init_93 rfl 0 rfl ?_
  refine b_iconst (v := 4) hC dX2_init_94 (by decide) ?_
  refine b_icmp_ge (tgt := 117) hC dX2_init_95 (by decide) (fun h => absurd h (by decide)) (fun _ => ?_)
  refine b_aload_n hC dX2_init_98 rfl 1 rfl ?_
  refine b_getq (C := RX2) (T := TX2) (N := 12) (ci := 2) (fs := [.int 0, .ref q1, .ref q2, .ref q3, .ref q4, .ref q5, .ref q6, .int 0, .int 0, .ref (u1.1 0), .int 0, .ref q8]) (v := .ref q8) hC hi 0 rfl rfl 11 (by decide) (by decide +kernel) rfl dX2_init_99 ?_
  refine b_iload_n hC dX2_init_102 rfl 0 rfl ?_
  refine b_new (C := RX4) (T := TX4) (N := 8) (ci := 4) (ty := tyX4) (fs := [.int 0, .int 0, .int 0, .null, .null, .null, .null, .null]) hC (by decide +kernel) tyX4_ok (by decide +kernel) (by decide +kernel) (by decide +kernel) rfl (vVX4) (Nat.le_of_ble_eq_true rfl) (Nat.le_of_ble_eq_true rfl) dX2_init_103 (fun q9 => ?_)
  refine b_dup hC dX2_init_106 rfl ?_
  refine b_call hC (kX4 (cI := cI) (cZ := cZ) (cC := cC) (cJ := cJ) (cY := cY) (cH := cH)) (cwI 0 hC.1.2.2.2.2 gX2_init_X4_init rfl rfl rfl (hC.1.2.2.2.2 _ (by decide +kernel)) (hC.1.2.2.2.2 _ (by decide +kernel)) (hC.1.2.2.2.2 _ (by decide +kernel)) rfl (by decide +kernel) ⟨Nat.le_of_ble_eq_true rfl, Nat.le_of_ble_eq_true rfl⟩) (Nat.le_of_ble_eq_true rfl) dX2_init_107 ⟨Nat.le_of_ble_eq_true rfl, Nat.le_of_ble_eq_true rfl⟩ (fun u2 hu2 => ?_)
  obtain ⟨rfl, hu2⟩ := hu2
  refine b_astq (r := (RX4, TX4, 8)) (ci := 4) (t0 := 4) hC 7 rfl rfl (b_pool (kX4_0 ..)) rfl (vin_0) dX2_init_110 ?_
  refine b_nf (X' := [(b, .inr (2, [.int 0, .ref q1, .ref q2, .ref q3, .ref q4, .ref q5, .ref q6, .int 0, .int 0, .ref (u1.1 0), .int 0, .ref q8])), (q1, .inl (cI, 8, .inl (fun _ => 0))), (q2, .inl (cI, 20, .inl (fun _ => 0))), (q3, .inl (cI, 20, .inl (fun _ => 0))), (q4, .inl (cI, 20, .inl (fun _ => 0))), (q5, .inl (cI, 20, .inl (fun _ => 0))), (q6, .inl (cZ, 20, .inl (fun _ => 0))), (q8, .inl (cY, 4, .inr (.inr (.inr (.inr (va_up (fun _ => none) (0 : Int32).toNatClampNeg (some (u2.1 0))))))))]) rfl ?_
  refine b_iinc (v := 1) (lv' := [(1, .int 1), (0, .ref b)]) (kx := 0) hC dX2_init_111 rfl rfl (by decide) (by sorry) ?_
  refine b_goto (tgt := 93) hC dX2_init_114 (by decide) ?_
  refine b_iload_n hC dX2_init_93 rfl 0 rfl ?_
  refine b_iconst (v := 4) hC dX2_init_94 (by decide) ?_
  refine b_icmp_ge (tgt := 117) hC dX2_init_95 (by decide) (fun h => absurd h (by decide)) (fun _ => ?_)
  refine b_aload_n hC dX2_init_98 rfl 1 rfl ?_
  refine b_getq (C := RX2) (T := TX2) (N := 12) (ci := 2) (fs := [.int 0, .ref q1, .ref q2, .ref q3, .ref q4, .ref q5, .ref q6, .int 0, .int 0, .ref (u1.1 0), .int 0, .ref q8]) (v := .ref q8) hC hi 0 rfl rfl 11 (by decide) (by decide +kernel) rfl dX2_init_99 ?_
  refine b_iload_n hC dX2_init_102 rfl 0 rfl ?_
  refine b_new (C := RX4) (T := TX4) (N := 8) (ci := 4) (ty := tyX4) (fs := [.int 0, .int 0, .int 0, .null, .null, .null, .null, .null]) hC (by decide +kernel) tyX4_ok (by decide +kernel) (by decide +kernel) (by decide +kernel) rfl (vVX4) (Nat.le_of_ble_eq_true rfl) (Nat.le_of_ble_eq_true rfl) dX2_init_103 (fun q10 => ?_)
  refine b_dup hC dX2_init_106 rfl ?_
  refine b_call hC (kX4 (cI := cI) (cZ := cZ) (cC := cC) (cJ := cJ) (cY := cY) (cH := cH)) (cwI 0 hC.1.2.2.2.2 gX2_init_X4_init rfl rfl rfl (hC.1.2.2.2.2 _ (by decide +kernel)) (hC.1.2.2.2.2 _ (by decide +kernel)) (hC.1.2.2.2.2 _ (by decide +kernel)) rfl (by decide +kernel) ⟨Nat.le_of_ble_eq_true rfl, Nat.le_of_ble_eq_true rfl⟩) (Nat.le_of_ble_eq_true rfl) dX2_init_107 ⟨Nat.le_of_ble_eq_true rfl, Nat.le_of_ble_eq_true rfl⟩ (fun u3 hu3 => ?_)
  obtain ⟨rfl, hu3⟩ := hu3
  refine b_astq (r := (RX4, TX4, 8)) (ci := 4) (t0 := 4) hC 7 rfl rfl (b_pool (kX4_0 ..)) rfl (vin_1) dX2_init_110 ?_
  refine b_nf (X' := [(b, .inr (2, [.int 0, .ref q1, .ref q2, .ref q3, .ref q4, .ref q5, .ref q6, .int 0, .int 0, .ref (u1.1 0), .int 0, .ref q8])), (q1, .inl (cI, 8, .inl (fun _ => 0))), (q2, .inl (cI, 20, .inl (fun _ => 0))), (q3, .inl (cI, 20, .inl (fun _ => 0))), (q4, .inl (cI, 20, .inl (fun _ => 0))), (q5, .inl (cI, 20, .inl (fun _ => 0))), (q6, .inl (cZ, 20, .inl (fun _ => 0))), (q8, .inl (cY, 4, .inr (.inr (.inr (.inr (va_up (va_up (fun _ => none) (0 : Int32).toNatClampNeg (some (u2.1 0))) (1 : Int32).toNatClampNeg (some (u3.1 0))))))))]) rfl ?_
  refine b_iinc (v := 2) (lv' := [(1, .int 2), (0, .ref b)]) (kx := 0) hC dX2_init_111 rfl rfl (by decide) (by sorry) ?_
  refine b_goto (tgt := 93) hC dX2_init_114 (by decide) ?_
  refine b_iload_n hC dX2_init_93 rfl 0 rfl ?_
  refine b_iconst (v := 4) hC dX2_init_94 (by decide) ?_
  refine b_icmp_ge (tgt := 117) hC dX2_init_95 (by decide) (fun h => absurd h (by decide)) (fun _ => ?_)
  refine b_aload_n hC dX2_init_98 rfl 1 rfl ?_
  refine b_getq (C := RX2) (T := TX2) (N := 12) (ci := 2) (fs := [.int 0, .ref q1, .ref q2, .ref q3, .ref q4, .ref q5, .ref q6, .int 0, .int 0, .ref (u1.1 0), .int 0, .ref q8]) (v := .ref q8) hC hi 0 rfl rfl 11 (by decide) (by decide +kernel) rfl dX2_init_99 ?_
  refine b_iload_n hC dX2_init_102 rfl 0 rfl ?_
  refine b_new (C := RX4) (T := TX4) (N := 8) (ci := 4) (ty := tyX4) (fs := [.int 0, .int 0, .int 0, .null, .null, .null, .null, .null]) hC (by decide +kernel) tyX4_ok (by decide +kernel) (by decide +kernel) (by decide +kernel) rfl (vVX4) (Nat.le_of_ble_eq_true rfl) (Nat.le_of_ble_eq_true rfl) dX2_init_103 (fun q11 => ?_)
  refine b_dup hC dX2_init_106 rfl ?_
  refine b_call hC (kX4 (cI := cI) (cZ := cZ) (cC := cC) (cJ := cJ) (cY := cY) (cH := cH)) (cwI 0 hC.1.2.2.2.2 gX2_init_X4_init rfl rfl rfl (hC.1.2.2.2.2 _ (by decide +kernel)) (hC.1.2.2.2.2 _ (by decide +kernel)) (hC.1.2.2.2.2 _ (by decide +kernel)) rfl (by decide +kernel) ⟨Nat.le_of_ble_eq_true rfl, Nat.le_of_ble_eq_true rfl⟩) (Nat.le_of_ble_eq_true rfl) dX2_init_107 ⟨Nat.le_of_ble_eq_true rfl, Nat.le_of_ble_eq_true rfl⟩ (fun u4 hu4 => ?_)
  obtain ⟨rfl, hu4⟩ := hu4
  refine b_astq (r := (RX4, TX4, 8)) (ci := 4) (t0 := 4) hC 7 rfl rfl (b_pool (kX4_0 ..)) rfl (vin_2) dX2_init_110 ?_
  refine b_nf (X' := [(b, .inr (2, [.int 0, .ref q1, .ref q2, .ref q3, .ref q4, .ref q5, .ref q6, .int 0, .int 0, .ref (u1.1 0), .int 0, .ref q8])), (q1, .inl (cI, 8, .inl (fun _ => 0))), (q2, .inl (cI, 20, .inl (fun _ => 0))), (q3, .inl (cI, 20, .inl (fun _ => 0))), (q4, .inl (cI, 20, .inl (fun _ => 0))), (q5, .inl (cI, 20, .inl (fun _ => 0))), (q6, .inl (cZ, 20, .inl (fun _ => 0))), (q8, .inl (cY, 4, .inr (.inr (.inr (.inr (va_up (va_up (va_up (fun _ => none) (0 : Int32).toNatClampNeg (some (u2.1 0))) (1 : Int32).toNatClampNeg (some (u3.1 0))) (2 : Int32).toNatClampNeg (some (u4.1 0))))))))]) rfl ?_
  refine b_iinc (v := 3) (lv' := [(1, .int 3), (0, .ref b)]) (kx := 0) hC dX2_init_111 rfl rfl (by decide) (by sorry) ?_
  refine b_goto (tgt := 93) hC dX2_init_114 (by decide) ?_
  refine b_iload_n hC dX2_init_93 rfl 0 rfl ?_
  refine b_iconst (v := 4) hC dX2_init_94 (by decide) ?_
  refine b_icmp_ge (tgt := 117) hC dX2_init_95 (by decide) (fun h => absurd h (by decide)) (fun _ => ?_)
  refine b_aload_n hC dX2_init_98 rfl 1 rfl ?_
  refine b_getq (C := RX2) (T := TX2) (N := 12) (ci := 2) (fs := [.int 0, .ref q1, .ref q2, .ref q3, .ref q4, .ref q5, .ref q6, .int 0, .int 0, .ref (u1.1 0), .int 0, .ref q8]) (v := .ref q8) hC hi 0 rfl rfl 11 (by decide) (by decide +kernel) rfl dX2_init_99 ?_
  refine b_iload_n hC dX2_init_102 rfl 0 rfl ?_
  refine b_new (C := RX4) (T := TX4) (N := 8) (ci := 4) (ty := tyX4) (fs := [.int 0, .int 0, .int 0, .null, .null, .null, .null, .null]) hC (by decide +kernel) tyX4_ok (by decide +kernel) (by decide +kernel) (by decide +kernel) rfl (vVX4) (Nat.le_of_ble_eq_true rfl) (Nat.le_of_ble_eq_true rfl) dX2_init_103 (fun q12 => ?_)
  refine b_dup hC dX2_init_106 rfl ?_
  refine b_call hC (kX4 (cI := cI) (cZ := cZ) (cC := cC) (cJ := cJ) (cY := cY) (cH := cH)) (cwI 0 hC.1.2.2.2.2 gX2_init_X4_init rfl rfl rfl (hC.1.2.2.2.2 _ (by decide +kernel)) (hC.1.2.2.2.2 _ (by decide +kernel)) (hC.1.2.2.2.2 _ (by decide +kernel)) rfl (by decide +kernel) ⟨Nat.le_of_ble_eq_true rfl, Nat.le_of_ble_eq_true rfl⟩) (Nat.le_of_ble_eq_true rfl) dX2_init_107 ⟨Nat.le_of_ble_eq_true rfl, Nat.le_of_ble_eq_true rfl⟩ (fun u5 hu5 => ?_)
  obtain ⟨rfl, hu5⟩ := hu5
  refine b_astq (r := (RX4, TX4, 8)) (ci := 4) (t0 := 4) hC 7 rfl rfl (b_pool (kX4_0 ..)) rfl (vin_3) dX2_init_110 ?_
  refine b_nf (X' := [(b, .inr (2, [.int 0, .ref q1, .ref q2, .ref q3, .ref q4, .ref q5, .ref q6, .int 0, .int 0, .ref (u1.1 0), .int 0, .ref q8])), (q1, .inl (cI, 8, .inl (fun _ => 0))), (q2, .inl (cI, 20, .inl (fun _ => 0))), (q3, .inl (cI, 20, .inl (fun _ => 0))), (q4, .inl (cI, 20, .inl (fun _ => 0))), (q5, .inl (cI, 20, .inl (fun _ => 0))), (q6, .inl (cZ, 20, .inl (fun _ => 0))), (q8, .inl (cY, 4, .inr (.inr (.inr (.inr (va_up (va_up (va_up (va_up (fun _ => none) (0 : Int32).toNatClampNeg (some (u2.1 0))) (1 : Int32).toNatClampNeg (some (u3.1 0))) (2 : Int32).toNatClampNeg (some (u4.1 0))) (3 : Int32).toNatClampNeg (some (u5.1 0))))))))]) rfl ?_
  refine b_iinc (v := 4) (lv' := [(1, .int 4), (0, .ref b)]) (kx := 0) hC dX2_init_111 rfl rfl (by decide) (by sorry) ?_
  refine b_goto (tgt := 93) hC dX2_init_114 (by decide) ?_
  refine b_iload_n hC dX2_init_93 rfl 0 rfl ?_
  refine b_iconst (v := 4) hC dX2_init_94 (by decide) ?_
  refine b_icmp_ge (tgt := 117) hC dX2_init_95 (by decide) (fun _ => ?_) (fun h => absurd (show (4 : Int32) ≤ 4 by decide) h)
  refine b_sub hC [0, 1, 2, 3, 4, 5, 6, 7, 32, 33, 34, 35, 36, 37, 26, 27, 28, 29, 30, 31, 20, 21, 22, 23, 24, 25, 14, 15, 16, 17, 18, 19, 8, 9, 10, 11, 12, 13] (X' := hW cI cZ cC cJ cY cH (fun k => if k < 8 then [b, q1, q2, q3, q4, q5, q6, q8].getD k 0 else ([u1, u2, u3, u4, u5].getD ((k - 8) / 6) u1).1 ((k - 8) % 6), fun k => if k < 8 then (fun _ => 0) else ([u1, u2, u3, u4, u5].getD ((k - 8) / 6) u1).2 ((k - 8) % 6), va_up (va_up (va_up (va_up ((fun _ => none)) (0 : Int32).toNatClampNeg (some (u2.1 0))) (1 : Int32).toNatClampNeg (some (u3.1 0))) (2 : Int32).toNatClampNeg (some (u4.1 0))) (3 : Int32).toNatClampNeg (some (u5.1 0)))) (by decide) (by sorry) ?_
  refine b_ret hC (u := (fun k => if k < 8 then [b, q1, q2, q3, q4, q5, q6, q8].getD k 0 else ([u1, u2, u3, u4, u5].getD ((k - 8) / 6) u1).1 ((k - 8) % 6), fun k => if k < 8 then (fun _ => 0) else ([u1, u2, u3, u4, u5].getD ((k - 8) / 6) u1).2 ((k - 8) % 6), va_up (va_up (va_up (va_up ((fun _ => none)) (0 : Int32).toNatClampNeg (some (u2.1 0))) (1 : Int32).toNatClampNeg (some (u3.1 0))) (2 : Int32).toNatClampNeg (some (u4.1 0))) (3 : Int32).toNatClampNeg (some (u5.1 0)))) ⟨rfl, ?_, fun k j hk => ?_, ?_⟩ (List.append_nil _).symm dX2_init_117
  · funext j
    match j with
    | 0 => rfl
    | 1 => rfl
    | 2 => rfl
    | 3 => rfl
    | j + 4 => rfl
  · dsimp only
    rw [if_pos hk]
  · intro y hy
    rcases (show y = 0 ∨ y = 1 ∨ y = 2 ∨ y = 3 ∨ y = 4 by omega) with rfl | rfl | rfl | rfl | rfl
    · exact ⟨hu1.1, hu1.2.1, hu1.2.2.1, hu1.2.2.2.1, hu1.2.2.2.2.1, fun i j h3 h6 => by
        rcases (show i = 3 ∨ i = 4 ∨ i = 5 by omega) with rfl | rfl | rfl
        all_goals exact hu1.2.2.2.2.2 _ _ (by omega)⟩
    · exact ⟨hu2.1, hu2.2.1, hu2.2.2.1, hu2.2.2.2.1, hu2.2.2.2.2.1, fun i j h3 h6 => by
        rcases (show i = 3 ∨ i = 4 ∨ i = 5 by omega) with rfl | rfl | rfl
        all_goals exact hu2.2.2.2.2.2 _ _ (by omega)⟩
    · exact ⟨hu3.1, hu3.2.1, hu3.2.2.1, hu3.2.2.2.1, hu3.2.2.2.2.1, fun i j h3 h6 => by
        rcases (show i = 3 ∨ i = 4 ∨ i = 5 by omega) with rfl | rfl | rfl
        all_goals exact hu3.2.2.2.2.2 _ _ (by omega)⟩
    · exact ⟨hu4.1, hu4.2.1, hu4.2.2.1, hu4.2.2.2.1, hu4.2.2.2.2.1, fun i j h3 h6 => by
        rcases (show i = 3 ∨ i = 4 ∨ i = 5 by omega) with rfl | rfl | rfl
        all_goals exact hu4.2.2.2.2.2 _ _ (by omega)⟩
    · exact ⟨hu5.1, hu5.2.1, hu5.2.2.1, hu5.2.2.2.1, hu5.2.2.2.2.1, fun i j h3 h6 => by
        rcases (show i = 3 ∨ i = 4 ∨ i = 5 by omega) with rfl | rfl | rfl
        all_goals exact hu5.2.2.2.2.2 _ _ (by omega)⟩

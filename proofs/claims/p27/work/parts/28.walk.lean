theorem hmL_law_cl : Cond.classLink RL 14 RX5 ∈ wsL_law := List.mem_of_getElem? (i := 0) rfl
theorem hmL_law_in : Cond.instantiable RX5 6 ∈ wsL_law := List.mem_of_getElem? (i := 1) rfl
theorem hmL_law_ini : Cond.initialized RX5 ∈ wsL_law := List.mem_of_getElem? (i := 2) rfl
theorem hmL_law_ml : Cond.methodLink RL 83 yX5_init ∈ wsL_law := List.mem_of_getElem? (i := 12) rfl
theorem hmL_law_im : Cond.instanceMethod yX5_init ∈ wsL_law := List.mem_of_getElem? (i := 13) rfl
theorem hmL_law_arrJ : Cond.arrayClass .long ∈ wsL_law := List.mem_of_getElem? (i := 3) rfl
set_option maxRecDepth 100000 in
set_option maxHeartbeats 4000000 in
theorem tL_law {p : Program} {l : Launch} {e : Env} {s : State} {m : MethodId} {b : Nat} {below : List Frame} {meth : Method} {c : Code} {L : Nat} {xs : Nat → Int32} {D : va_G} {cI cZ cC cJ cY cH : ClassId} {t1 t2 : Nat} {Q : Int32 → State → Prop} (hC : nC p s m #[Value.ref b] meth c cL_law 11 RL wsL_law D cI cZ cC cJ cY cH t1 t2) (hE : lE p l e s m b below meth c Q) (hbx : va_X b L xs s s.heap ∧ b < s.heap.size) (hL : L ≤ 260) (n : Nat) : nV p l e room_1 s m #[Value.ref b] below meth c 11 D cI cZ cC cJ cY cH Q (none, none) 0 0 (mz, (fun _ => 0)) 0 [(0, .ref b)] [] (fL_law n (drw xs L)) := by
  have L52 : ∀ (ad : Nat → Nat) (wa : Nat) (k : Int32 → Int32 → lm → Option Int32) (hk : ∀ (x4 : Int32) (x3 : Int32) (μ : lm), nV p l e room_1 s m #[Value.ref b] below meth c 11 D cI cZ cC cJ cY cH Q (some ad, some wa) 4821 63804 μ 425 [(4, .int x4), (3, .int x3), (2, .ref wa), (1, .ref (ad 228)), (0, .ref b)] [] (k x4 x3 μ)) (f : Nat) (x4 : Int32) (x3 : Int32) (μ : lm), nV p l e room_1 s m #[Value.ref b] below meth c 11 D cI cZ cC cJ cY cH Q (some ad, some wa) 4821 63804 μ 52 [(4, .int x4), (3, .int x3), (2, .ref wa), (1, .ref (ad 228)), (0, .ref b)] [] (lL_law_52 n (drw xs L) k f x4 x3 μ) := by
    intro ad wa k hk f
    induction f with
    | zero => intro x4 x3 μ; rw [lL_law_52]; exact nr_none
    | succ f ih =>
      intro x4 x3 μ
      rw [lL_law_52]
      have J375 : ∀ (v7 : Int32) (s0 : Int32) (μ : lm), nV p l e room_1 s m #[Value.ref b] below meth c 11 D cI cZ cC cJ cY cH Q (some ad, some wa) 4821 63804 μ 375 [(7, .int v7), (4, .int x4), (3, .int x3), (2, .ref wa), (1, .ref (ad 228)), (0, .ref b)] [.int s0] (jL_law_375 n (drw xs L) (fun x4 x3 μ => lL_law_52 n (drw xs L) k f x4 x3 μ) x4 x3 v7 s0 μ) := by
        intro v7 s0 μ
        rw [jL_law_375]
        refine nr_istore (lv' := [(10, .int s0), (7, .int v7), (4, .int x4), (3, .int x3), (2, .ref wa), (1, .ref (ad 228)), (0, .ref b)]) hC dL_law_375 (by decide) rfl ?_
        refine nr_iload hC dL_law_377 0 rfl ?_
        refine nr_if_ge (tgt := 406) hC dL_law_379 (by decide) (fun _ => ?_) (fun _ => ?_)
        · refine nr_iload_n hC dL_law_406 rfl 3 rfl ?_
          refine nr_iload hC dL_law_407 0 rfl ?_
          refine nr_if_ge (tgt := 416) hC dL_law_409 (by decide) (fun _ => ?_) (fun _ => ?_)
          · refine nr_iconst (v := 1) hC dL_law_416 (by decide) ?_
            refine nr_iadd hC dL_law_417 ?_
            refine nr_istore_n (lv' := [(3, .int (x3 + (1 : Int32))), (10, .int s0), (7, .int v7), (4, .int x4), (2, .ref wa), (1, .ref (ad 228)), (0, .ref b)]) hC dL_law_418 rfl (by decide) rfl ?_
            refine nr_iinc (v := (x4 + (1 : Int32))) (lv' := [(4, .int (x4 + (1 : Int32))), (3, .int (x3 + (1 : Int32))), (10, .int s0), (7, .int v7), (2, .ref wa), (1, .ref (ad 228)), (0, .ref b)]) (kx := 3) hC dL_law_419 rfl rfl (by decide) rfl ?_
            refine nr_goto (tgt := 52) hC dL_law_422 (by decide) ?_
            refine nr_sub (lv' := [(4, .int (x4 + (1 : Int32))), (3, .int (x3 + (1 : Int32))), (2, .ref wa), (1, .ref (ad 228)), (0, .ref b)]) [0, 1, 4, 5, 6] rfl ?_
            exact ih _ _ _
          · refine nr_iconst (v := 0) hC dL_law_412 (by decide) ?_
            refine nr_goto (tgt := 417) hC dL_law_413 (by decide) ?_
            refine nr_iadd hC dL_law_417 ?_
            refine nr_istore_n (lv' := [(3, .int (x3 + (0 : Int32))), (10, .int s0), (7, .int v7), (4, .int x4), (2, .ref wa), (1, .ref (ad 228)), (0, .ref b)]) hC dL_law_418 rfl (by decide) rfl ?_
            refine nr_iinc (v := (x4 + (1 : Int32))) (lv' := [(4, .int (x4 + (1 : Int32))), (3, .int (x3 + (0 : Int32))), (10, .int s0), (7, .int v7), (2, .ref wa), (1, .ref (ad 228)), (0, .ref b)]) (kx := 3) hC dL_law_419 rfl rfl (by decide) rfl ?_
            refine nr_goto (tgt := 52) hC dL_law_422 (by decide) ?_
            refine nr_sub (lv' := [(4, .int (x4 + (1 : Int32))), (3, .int (x3 + (0 : Int32))), (2, .ref wa), (1, .ref (ad 228)), (0, .ref b)]) [0, 1, 4, 5, 6] rfl ?_
            exact ih _ _ _
        · refine nr_aload_n hC dL_law_382 rfl 5 rfl ?_
          refine nr_bipush (v := 13) hC dL_law_383 (by decide) ?_
          refine nr_callVi (As := [.int (13 : Int32)]) hC rfl (fun hI => tX5_count (t1 := t1) (t2 := t2) hI n (13 : Int32) μ.1) (cwV 1 hC.1.2.2.2.2 gL_law_X5_count rfl rfl rfl (by decide +kernel) ⟨Nat.le_of_ble_eq_true rfl, Nat.le_of_ble_eq_true rfl⟩) rfl (Nat.le_of_ble_eq_true rfl) ⟨Nat.le_of_ble_eq_true rfl, Nat.le_of_ble_eq_true rfl⟩ dL_law_385 (fun r385 m385 => ?_)
          refine nr_iload hC dL_law_388 1 rfl ?_
          refine nr_icmp_ne (tgt := 404) hC dL_law_390 (by decide) (fun _ => ?_) (fun _ => ?_)
          · refine nr_aload_n hC dL_law_393 rfl 5 rfl ?_
            refine nr_callSl (As := [.ref (ad 228)]) hC rfl (fun hI => tL_seen (t1 := t1) (t2 := t2) hI n m385) (va_cwS 1 hC.1.2.2.2.2 gL_law_L_seen rfl rfl rfl (by decide +kernel) ⟨Nat.le_of_ble_eq_true rfl, Nat.le_of_ble_eq_true rfl⟩) rfl (Nat.le_of_ble_eq_true rfl) ⟨Nat.le_of_ble_eq_true rfl, Nat.le_of_ble_eq_true rfl⟩ dL_law_394 (fun r394 m394 => ?_)
            refine nr_aload_n hC dL_law_397 rfl 4 rfl ?_
            refine nr_iload_n hC dL_law_398 rfl 3 rfl ?_
            refine nr_lald hC dL_law_399 ?_
            refine nr_lcmp hC dL_law_400 ?_
            refine nr_if_eq (tgt := 406) hC dL_law_401 (by decide) (fun _ => ?_) (fun _ => ?_)
            · refine nr_iload_n hC dL_law_406 rfl 3 rfl ?_
              refine nr_iload hC dL_law_407 0 rfl ?_
              refine nr_if_ge (tgt := 416) hC dL_law_409 (by decide) (fun _ => ?_) (fun _ => ?_)
              · refine nr_iconst (v := 1) hC dL_law_416 (by decide) ?_
                refine nr_iadd hC dL_law_417 ?_
                refine nr_istore_n (lv' := [(3, .int (x3 + (1 : Int32))), (10, .int s0), (7, .int v7), (4, .int x4), (2, .ref wa), (1, .ref (ad 228)), (0, .ref b)]) hC dL_law_418 rfl (by decide) rfl ?_
                refine nr_iinc (v := (x4 + (1 : Int32))) (lv' := [(4, .int (x4 + (1 : Int32))), (3, .int (x3 + (1 : Int32))), (10, .int s0), (7, .int v7), (2, .ref wa), (1, .ref (ad 228)), (0, .ref b)]) (kx := 3) hC dL_law_419 rfl rfl (by decide) rfl ?_
                refine nr_goto (tgt := 52) hC dL_law_422 (by decide) ?_
                refine nr_sub (lv' := [(4, .int (x4 + (1 : Int32))), (3, .int (x3 + (1 : Int32))), (2, .ref wa), (1, .ref (ad 228)), (0, .ref b)]) [0, 1, 4, 5, 6] rfl ?_
                exact ih _ _ _
              · refine nr_iconst (v := 0) hC dL_law_412 (by decide) ?_
                refine nr_goto (tgt := 417) hC dL_law_413 (by decide) ?_
                refine nr_iadd hC dL_law_417 ?_
                refine nr_istore_n (lv' := [(3, .int (x3 + (0 : Int32))), (10, .int s0), (7, .int v7), (4, .int x4), (2, .ref wa), (1, .ref (ad 228)), (0, .ref b)]) hC dL_law_418 rfl (by decide) rfl ?_
                refine nr_iinc (v := (x4 + (1 : Int32))) (lv' := [(4, .int (x4 + (1 : Int32))), (3, .int (x3 + (0 : Int32))), (10, .int s0), (7, .int v7), (2, .ref wa), (1, .ref (ad 228)), (0, .ref b)]) (kx := 3) hC dL_law_419 rfl rfl (by decide) rfl ?_
                refine nr_goto (tgt := 52) hC dL_law_422 (by decide) ?_
                refine nr_sub (lv' := [(4, .int (x4 + (1 : Int32))), (3, .int (x3 + (0 : Int32))), (2, .ref wa), (1, .ref (ad 228)), (0, .ref b)]) [0, 1, 4, 5, 6] rfl ?_
                exact ih _ _ _
            · refine nr_iconst (v := 0) hC dL_law_404 (by decide) ?_
              exact nr_lawret hC hE (Nat.le_of_ble_eq_true rfl) (Nat.le_of_ble_eq_true rfl) dL_law_405
          · refine nr_iconst (v := 0) hC dL_law_404 (by decide) ?_
            exact nr_lawret hC hE (Nat.le_of_ble_eq_true rfl) (Nat.le_of_ble_eq_true rfl) dL_law_405
      refine nr_iload hC dL_law_52 0 rfl ?_
      refine nr_bipush (v := 30) hC dL_law_54 (by decide) ?_
      refine nr_icmp_ge (tgt := 425) hC dL_law_56 (by decide) (fun _ => ?_) (fun _ => ?_)
      · refine nr_sub (lv' := [(4, .int x4), (3, .int x3), (2, .ref wa), (1, .ref (ad 228)), (0, .ref b)]) [0, 1, 2, 3, 4] rfl ?_
        exact hk _ _ _
      · refine nr_aload_n hC dL_law_59 rfl 4 rfl ?_
        refine nr_iload hC dL_law_60 0 rfl ?_
        refine nr_callN (As := [.ref b, .int x4]) (fb := if 0 ≤ x4 then some ((drw xs L) x4) else none) hC rfl (fun r h => tL_drawn hL h) dr_blind (fun U H locs hU hWm hS => dr_at hbx hU hWm hS) (va_cwS 2 hC.1.2.2.2.2 gL_law_L_drawn rfl rfl rfl (by decide +kernel) ⟨Nat.le_of_ble_eq_true rfl, Nat.le_of_ble_eq_true rfl⟩) rfl (Nat.le_of_ble_eq_true rfl) ⟨Nat.le_of_ble_eq_true rfl, Nat.le_of_ble_eq_true rfl⟩ dL_law_62 (fun r62 => ?_)
        refine nr_istore (lv' := [(5, .int r62), (4, .int x4), (3, .int x3), (2, .ref wa), (1, .ref (ad 228)), (0, .ref b)]) hC dL_law_65 (by decide) rfl ?_
        refine nr_iload hC dL_law_67 1 rfl ?_
        refine nr_iconst (v := 3) hC dL_law_69 (by decide) ?_
        refine nr_icmp_ge (tgt := 77) hC dL_law_70 (by decide) (fun _ => ?_) (fun _ => ?_)
        · refine nr_iload hC dL_law_77 1 rfl ?_
          refine nr_bipush (v := 7) hC dL_law_79 (by decide) ?_
          refine nr_icmp_ge (tgt := 88) hC dL_law_81 (by decide) (fun _ => ?_) (fun _ => ?_)
          · refine nr_iload hC dL_law_88 0 rfl ?_
            refine nr_bipush (v := 10) hC dL_law_90 (by decide) ?_
            refine nr_callSi (As := [.int r62, .int (10 : Int32)]) hC rfl (fun hI => tL_part (t1 := t1) (t2 := t2) hI n r62 (10 : Int32) μ.1) (va_cwS 2 hC.1.2.2.2.2 gL_law_L_part rfl rfl rfl (by decide +kernel) ⟨Nat.le_of_ble_eq_true rfl, Nat.le_of_ble_eq_true rfl⟩) rfl (Nat.le_of_ble_eq_true rfl) ⟨Nat.le_of_ble_eq_true rfl, Nat.le_of_ble_eq_true rfl⟩ dL_law_92 (fun r92 m92 => ?_)
            refine nr_istore (lv' := [(6, .int r92), (5, .int r62), (4, .int x4), (3, .int x3), (2, .ref wa), (1, .ref (ad 228)), (0, .ref b)]) hC dL_law_95 (by decide) rfl ?_
            refine nr_aload_n hC dL_law_97 rfl 4 rfl ?_
            refine nr_iload_n hC dL_law_98 rfl 3 rfl ?_
            refine nr_aload_n hC dL_law_99 rfl 5 rfl ?_
            refine nr_callSl (As := [.ref (ad 228)]) hC rfl (fun hI => tL_seen (t1 := t1) (t2 := t2) hI n m92) (va_cwS 1 hC.1.2.2.2.2 gL_law_L_seen rfl rfl rfl (by decide +kernel) ⟨Nat.le_of_ble_eq_true rfl, Nat.le_of_ble_eq_true rfl⟩) rfl (Nat.le_of_ble_eq_true rfl) ⟨Nat.le_of_ble_eq_true rfl, Nat.le_of_ble_eq_true rfl⟩ dL_law_100 (fun r100 m100 => ?_)
            refine nr_last hC dL_law_103 ?_
            refine nr_aload_n hC dL_law_104 rfl 5 rfl ?_
            refine nr_bipush (v := 13) hC dL_law_105 (by decide) ?_
            refine nr_callVi (As := [.int (13 : Int32)]) hC rfl (fun hI => tX5_count (t1 := t1) (t2 := t2) hI n (13 : Int32) m100) (cwV 1 hC.1.2.2.2.2 gL_law_X5_count rfl rfl rfl (by decide +kernel) ⟨Nat.le_of_ble_eq_true rfl, Nat.le_of_ble_eq_true rfl⟩) rfl (Nat.le_of_ble_eq_true rfl) ⟨Nat.le_of_ble_eq_true rfl, Nat.le_of_ble_eq_true rfl⟩ dL_law_107 (fun r107 m107 => ?_)
            refine nr_istore (lv' := [(7, .int r107), (6, .int r92), (5, .int r62), (4, .int x4), (3, .int x3), (2, .ref wa), (1, .ref (ad 228)), (0, .ref b)]) hC dL_law_110 (by decide) rfl ?_
            refine nr_iload hC dL_law_112 2 rfl ?_
            refine nr_iconst (v := 4) hC dL_law_114 (by decide) ?_
            refine nr_ishr hC dL_law_115 ?_
            refine nr_bipush (v := 6) hC dL_law_116 (by decide) ?_
            refine nr_callSi (As := [.int (r62 >>> ((4 : Int32) &&& 31)), .int (6 : Int32)]) hC rfl (fun hI => tL_part (t1 := t1) (t2 := t2) hI n (r62 >>> ((4 : Int32) &&& 31)) (6 : Int32) m107) (va_cwS 2 hC.1.2.2.2.2 gL_law_L_part rfl rfl rfl (by decide +kernel) ⟨Nat.le_of_ble_eq_true rfl, Nat.le_of_ble_eq_true rfl⟩) rfl (Nat.le_of_ble_eq_true rfl) ⟨Nat.le_of_ble_eq_true rfl, Nat.le_of_ble_eq_true rfl⟩ dL_law_118 (fun r118 m118 => ?_)
            refine nr_istore (lv' := [(8, .int r118), (7, .int r107), (6, .int r92), (5, .int r62), (4, .int x4), (3, .int x3), (2, .ref wa), (1, .ref (ad 228)), (0, .ref b)]) hC dL_law_121 (by decide) rfl ?_
            refine nr_iload hC dL_law_123 3 rfl ?_
            refine nr_iconst (v := 4) hC dL_law_125 (by decide) ?_
            refine nr_ishr hC dL_law_126 ?_
            refine nr_iconst (v := 4) hC dL_law_127 (by decide) ?_
            refine nr_callSi (As := [.int (r62 >>> ((4 : Int32) &&& 31)), .int (4 : Int32)]) hC rfl (fun hI => tL_part (t1 := t1) (t2 := t2) hI n (r62 >>> ((4 : Int32) &&& 31)) (4 : Int32) m118) (va_cwS 2 hC.1.2.2.2.2 gL_law_L_part rfl rfl rfl (by decide +kernel) ⟨Nat.le_of_ble_eq_true rfl, Nat.le_of_ble_eq_true rfl⟩) rfl (Nat.le_of_ble_eq_true rfl) ⟨Nat.le_of_ble_eq_true rfl, Nat.le_of_ble_eq_true rfl⟩ dL_law_128 (fun r128 m128 => ?_)
            refine nr_istore (lv' := [(9, .int r128), (8, .int r118), (7, .int r107), (6, .int r92), (5, .int r62), (4, .int x4), (3, .int x3), (2, .ref wa), (1, .ref (ad 228)), (0, .ref b)]) hC dL_law_131 (by decide) rfl ?_
            refine nr_iload hC dL_law_133 3 rfl ?_
            refine nr_if_ne (tgt := 157) hC dL_law_135 (by decide) (fun _ => ?_) (fun _ => ?_)
            · refine nr_aload_n hC dL_law_138 rfl 8 rfl ?_
              refine nr_iconst (v := 1) hC dL_law_139 (by decide) ?_
              refine nr_iload hC dL_law_140 4 rfl ?_
              refine nr_iconst (v := 4) hC dL_law_142 (by decide) ?_
              refine nr_ishr hC dL_law_143 ?_
              refine nr_sipush (v := 200) hC dL_law_144 (by decide) ?_
              refine nr_callSi (As := [.int (r62 >>> ((4 : Int32) &&& 31)), .int (200 : Int32)]) hC rfl (fun hI => tL_part (t1 := t1) (t2 := t2) hI n (r62 >>> ((4 : Int32) &&& 31)) (200 : Int32) m128) (va_cwS 2 hC.1.2.2.2.2 gL_law_L_part rfl rfl rfl (by decide +kernel) ⟨Nat.le_of_ble_eq_true rfl, Nat.le_of_ble_eq_true rfl⟩) rfl (Nat.le_of_ble_eq_true rfl) ⟨Nat.le_of_ble_eq_true rfl, Nat.le_of_ble_eq_true rfl⟩ dL_law_147 (fun r147 m147 => ?_)
              refine nr_iadd hC dL_law_150 ?_
              refine nr_callVi (As := [.int ((1 : Int32) + r147)]) hC rfl (fun hI => tX5_addFlat (t1 := t1) (t2 := t2) hI n ((1 : Int32) + r147) m147) (cwV 1 hC.1.2.2.2.2 gL_law_X5_addFlat rfl rfl rfl (by decide +kernel) ⟨Nat.le_of_ble_eq_true rfl, Nat.le_of_ble_eq_true rfl⟩) rfl (Nat.le_of_ble_eq_true rfl) ⟨Nat.le_of_ble_eq_true rfl, Nat.le_of_ble_eq_true rfl⟩ dL_law_151 (fun r151 m151 => ?_)
              refine nr_goto (tgt := 375) hC dL_law_154 (by decide) ?_
              refine nr_sub (lv' := [(7, .int r107), (4, .int x4), (3, .int x3), (2, .ref wa), (1, .ref (ad 228)), (0, .ref b)]) [2, 5, 6, 7, 8, 9] rfl ?_
              exact J375 _ _ _
            · refine nr_iload hC dL_law_157 3 rfl ?_
              refine nr_iconst (v := 1) hC dL_law_159 (by decide) ?_
              refine nr_icmp_ne (tgt := 184) hC dL_law_160 (by decide) (fun _ => ?_) (fun _ => ?_)
              · refine nr_aload_n hC dL_law_163 rfl 8 rfl ?_
                refine nr_iload hC dL_law_164 0 rfl ?_
                refine nr_iconst (v := 1) hC dL_law_166 (by decide) ?_
                refine nr_iload hC dL_law_167 4 rfl ?_
                refine nr_bipush (v := 7) hC dL_law_169 (by decide) ?_
                refine nr_ishr hC dL_law_171 ?_
                refine nr_bipush (v := 20) hC dL_law_172 (by decide) ?_
                refine nr_callSi (As := [.int (r62 >>> ((7 : Int32) &&& 31)), .int (20 : Int32)]) hC rfl (fun hI => tL_part (t1 := t1) (t2 := t2) hI n (r62 >>> ((7 : Int32) &&& 31)) (20 : Int32) m128) (va_cwS 2 hC.1.2.2.2.2 gL_law_L_part rfl rfl rfl (by decide +kernel) ⟨Nat.le_of_ble_eq_true rfl, Nat.le_of_ble_eq_true rfl⟩) rfl (Nat.le_of_ble_eq_true rfl) ⟨Nat.le_of_ble_eq_true rfl, Nat.le_of_ble_eq_true rfl⟩ dL_law_174 (fun r174 m174 => ?_)
                refine nr_iadd hC dL_law_177 ?_
                refine nr_callVi (As := [.int r128, .int ((1 : Int32) + r174)]) hC rfl (fun hI => tX5_addDevice (t1 := t1) (t2 := t2) hI n r128 ((1 : Int32) + r174) m174) (cwV 2 hC.1.2.2.2.2 gL_law_X5_addDevice rfl rfl rfl (by decide +kernel) ⟨Nat.le_of_ble_eq_true rfl, Nat.le_of_ble_eq_true rfl⟩) rfl (Nat.le_of_ble_eq_true rfl) ⟨Nat.le_of_ble_eq_true rfl, Nat.le_of_ble_eq_true rfl⟩ dL_law_178 (fun r178 m178 => ?_)
                refine nr_goto (tgt := 375) hC dL_law_181 (by decide) ?_
                refine nr_sub (lv' := [(7, .int r107), (4, .int x4), (3, .int x3), (2, .ref wa), (1, .ref (ad 228)), (0, .ref b)]) [2, 5, 6, 7, 8, 9] rfl ?_
                exact J375 _ _ _
              · refine nr_iload hC dL_law_184 3 rfl ?_
                refine nr_iconst (v := 4) hC dL_law_186 (by decide) ?_
                refine nr_icmp_ge (tgt := 210) hC dL_law_187 (by decide) (fun _ => ?_) (fun _ => ?_)
                · refine nr_iload hC dL_law_210 3 rfl ?_
                  refine nr_iconst (v := 4) hC dL_law_212 (by decide) ?_
                  refine nr_icmp_ne (tgt := 242) hC dL_law_213 (by decide) (fun _ => ?_) (fun _ => ?_)
                  · refine nr_aload_n hC dL_law_216 rfl 8 rfl ?_
                    refine nr_iload hC dL_law_217 1 rfl ?_
                    refine nr_iload hC dL_law_219 4 rfl ?_
                    refine nr_bipush (v := 7) hC dL_law_221 (by decide) ?_
                    refine nr_ishr hC dL_law_223 ?_
                    refine nr_iconst (v := 2) hC dL_law_224 (by decide) ?_
                    refine nr_callSi (As := [.int (r62 >>> ((7 : Int32) &&& 31)), .int (2 : Int32)]) hC rfl (fun hI => tL_part (t1 := t1) (t2 := t2) hI n (r62 >>> ((7 : Int32) &&& 31)) (2 : Int32) m128) (va_cwS 2 hC.1.2.2.2.2 gL_law_L_part rfl rfl rfl (by decide +kernel) ⟨Nat.le_of_ble_eq_true rfl, Nat.le_of_ble_eq_true rfl⟩) rfl (Nat.le_of_ble_eq_true rfl) ⟨Nat.le_of_ble_eq_true rfl, Nat.le_of_ble_eq_true rfl⟩ dL_law_225 (fun r225 m225 => ?_)
                    refine nr_if_ne (tgt := 235) hC dL_law_228 (by decide) (fun _ => ?_) (fun _ => ?_)
                    · refine nr_iconst (v := 1) hC dL_law_231 (by decide) ?_
                      refine nr_goto (tgt := 236) hC dL_law_232 (by decide) ?_
                      refine nr_callVi (As := [.int r118, .int (1 : Int32)]) hC rfl (fun hI => tX5_mark (t1 := t1) (t2 := t2) hI n r118 (1 : Int32) m225) (cwV 2 hC.1.2.2.2.2 gL_law_X5_mark rfl rfl rfl (by decide +kernel) ⟨Nat.le_of_ble_eq_true rfl, Nat.le_of_ble_eq_true rfl⟩) rfl (Nat.le_of_ble_eq_true rfl) ⟨Nat.le_of_ble_eq_true rfl, Nat.le_of_ble_eq_true rfl⟩ dL_law_236 (fun r236 m236 => ?_)
                      refine nr_goto (tgt := 375) hC dL_law_239 (by decide) ?_
                      refine nr_sub (lv' := [(7, .int r107), (4, .int x4), (3, .int x3), (2, .ref wa), (1, .ref (ad 228)), (0, .ref b)]) [2, 5, 6, 7, 8, 9] rfl ?_
                      exact J375 _ _ _
                    · refine nr_iconst (v := 0) hC dL_law_235 (by decide) ?_
                      refine nr_callVi (As := [.int r118, .int (0 : Int32)]) hC rfl (fun hI => tX5_mark (t1 := t1) (t2 := t2) hI n r118 (0 : Int32) m225) (cwV 2 hC.1.2.2.2.2 gL_law_X5_mark rfl rfl rfl (by decide +kernel) ⟨Nat.le_of_ble_eq_true rfl, Nat.le_of_ble_eq_true rfl⟩) rfl (Nat.le_of_ble_eq_true rfl) ⟨Nat.le_of_ble_eq_true rfl, Nat.le_of_ble_eq_true rfl⟩ dL_law_236 (fun r236 m236 => ?_)
                      refine nr_goto (tgt := 375) hC dL_law_239 (by decide) ?_
                      refine nr_sub (lv' := [(7, .int r107), (4, .int x4), (3, .int x3), (2, .ref wa), (1, .ref (ad 228)), (0, .ref b)]) [2, 5, 6, 7, 8, 9] rfl ?_
                      exact J375 _ _ _
                  · refine nr_iload hC dL_law_242 3 rfl ?_
                    refine nr_iconst (v := 5) hC dL_law_244 (by decide) ?_
                    refine nr_icmp_ne (tgt := 274) hC dL_law_245 (by decide) (fun _ => ?_) (fun _ => ?_)
                    · refine nr_aload_n hC dL_law_248 rfl 8 rfl ?_
                      refine nr_iload hC dL_law_249 4 rfl ?_
                      refine nr_bipush (v := 7) hC dL_law_251 (by decide) ?_
                      refine nr_ishr hC dL_law_253 ?_
                      refine nr_iconst (v := 3) hC dL_law_254 (by decide) ?_
                      refine nr_callSi (As := [.int (r62 >>> ((7 : Int32) &&& 31)), .int (3 : Int32)]) hC rfl (fun hI => tL_part (t1 := t1) (t2 := t2) hI n (r62 >>> ((7 : Int32) &&& 31)) (3 : Int32) m128) (va_cwS 2 hC.1.2.2.2.2 gL_law_L_part rfl rfl rfl (by decide +kernel) ⟨Nat.le_of_ble_eq_true rfl, Nat.le_of_ble_eq_true rfl⟩) rfl (Nat.le_of_ble_eq_true rfl) ⟨Nat.le_of_ble_eq_true rfl, Nat.le_of_ble_eq_true rfl⟩ dL_law_255 (fun r255 m255 => ?_)
                      refine nr_iload hC dL_law_258 4 rfl ?_
                      refine nr_bipush (v := 9) hC dL_law_260 (by decide) ?_
                      refine nr_ishr hC dL_law_262 ?_
                      refine nr_bipush (v := 90) hC dL_law_263 (by decide) ?_
                      refine nr_callSi (As := [.int (r62 >>> ((9 : Int32) &&& 31)), .int (90 : Int32)]) hC rfl (fun hI => tL_part (t1 := t1) (t2 := t2) hI n (r62 >>> ((9 : Int32) &&& 31)) (90 : Int32) m255) (va_cwS 2 hC.1.2.2.2.2 gL_law_L_part rfl rfl rfl (by decide +kernel) ⟨Nat.le_of_ble_eq_true rfl, Nat.le_of_ble_eq_true rfl⟩) rfl (Nat.le_of_ble_eq_true rfl) ⟨Nat.le_of_ble_eq_true rfl, Nat.le_of_ble_eq_true rfl⟩ dL_law_265 (fun r265 m265 => ?_)
                      refine nr_callVi (As := [.int r255, .int r265]) hC rfl (fun hI => tX5_set (t1 := t1) (t2 := t2) hI n r255 r265 m265) (cwV 2 hC.1.2.2.2.2 gL_law_X5_set rfl rfl rfl (by decide +kernel) ⟨Nat.le_of_ble_eq_true rfl, Nat.le_of_ble_eq_true rfl⟩) rfl (Nat.le_of_ble_eq_true rfl) ⟨Nat.le_of_ble_eq_true rfl, Nat.le_of_ble_eq_true rfl⟩ dL_law_268 (fun r268 m268 => ?_)
                      refine nr_goto (tgt := 375) hC dL_law_271 (by decide) ?_
                      refine nr_sub (lv' := [(7, .int r107), (4, .int x4), (3, .int x3), (2, .ref wa), (1, .ref (ad 228)), (0, .ref b)]) [2, 5, 6, 7, 8, 9] rfl ?_
                      exact J375 _ _ _
                    · refine nr_iload hC dL_law_274 3 rfl ?_
                      refine nr_bipush (v := 6) hC dL_law_276 (by decide) ?_
                      refine nr_icmp_ne (tgt := 302) hC dL_law_278 (by decide) (fun _ => ?_) (fun _ => ?_)
                      · refine nr_aload_n hC dL_law_281 rfl 8 rfl ?_
                        refine nr_iload hC dL_law_282 0 rfl ?_
                        refine nr_iconst (v := 1) hC dL_law_284 (by decide) ?_
                        refine nr_iload hC dL_law_285 4 rfl ?_
                        refine nr_bipush (v := 7) hC dL_law_287 (by decide) ?_
                        refine nr_ishr hC dL_law_289 ?_
                        refine nr_bipush (v := 11) hC dL_law_290 (by decide) ?_
                        refine nr_callSi (As := [.int (r62 >>> ((7 : Int32) &&& 31)), .int (11 : Int32)]) hC rfl (fun hI => tL_part (t1 := t1) (t2 := t2) hI n (r62 >>> ((7 : Int32) &&& 31)) (11 : Int32) m128) (va_cwS 2 hC.1.2.2.2.2 gL_law_L_part rfl rfl rfl (by decide +kernel) ⟨Nat.le_of_ble_eq_true rfl, Nat.le_of_ble_eq_true rfl⟩) rfl (Nat.le_of_ble_eq_true rfl) ⟨Nat.le_of_ble_eq_true rfl, Nat.le_of_ble_eq_true rfl⟩ dL_law_292 (fun r292 m292 => ?_)
                        refine nr_iadd hC dL_law_295 ?_
                        refine nr_callVi (As := [.int r128, .int ((1 : Int32) + r292)]) hC rfl (fun hI => tX5_move (t1 := t1) (t2 := t2) hI n r128 ((1 : Int32) + r292) m292) (cwV 2 hC.1.2.2.2.2 gL_law_X5_move rfl rfl rfl (by decide +kernel) ⟨Nat.le_of_ble_eq_true rfl, Nat.le_of_ble_eq_true rfl⟩) rfl (Nat.le_of_ble_eq_true rfl) ⟨Nat.le_of_ble_eq_true rfl, Nat.le_of_ble_eq_true rfl⟩ dL_law_296 (fun r296 m296 => ?_)
                        refine nr_goto (tgt := 375) hC dL_law_299 (by decide) ?_
                        refine nr_sub (lv' := [(7, .int r107), (4, .int x4), (3, .int x3), (2, .ref wa), (1, .ref (ad 228)), (0, .ref b)]) [2, 5, 6, 7, 8, 9] rfl ?_
                        exact J375 _ _ _
                      · refine nr_iload hC dL_law_302 3 rfl ?_
                        refine nr_bipush (v := 7) hC dL_law_304 (by decide) ?_
                        refine nr_icmp_ne (tgt := 329) hC dL_law_306 (by decide) (fun _ => ?_) (fun _ => ?_)
                        · refine nr_aload_n hC dL_law_309 rfl 8 rfl ?_
                          refine nr_iload hC dL_law_310 0 rfl ?_
                          refine nr_iload hC dL_law_312 4 rfl ?_
                          refine nr_bipush (v := 7) hC dL_law_314 (by decide) ?_
                          refine nr_ishr hC dL_law_316 ?_
                          refine nr_sipush (v := 1001) hC dL_law_317 (by decide) ?_
                          refine nr_callSi (As := [.int (r62 >>> ((7 : Int32) &&& 31)), .int (1001 : Int32)]) hC rfl (fun hI => tL_part (t1 := t1) (t2 := t2) hI n (r62 >>> ((7 : Int32) &&& 31)) (1001 : Int32) m128) (va_cwS 2 hC.1.2.2.2.2 gL_law_L_part rfl rfl rfl (by decide +kernel) ⟨Nat.le_of_ble_eq_true rfl, Nat.le_of_ble_eq_true rfl⟩) rfl (Nat.le_of_ble_eq_true rfl) ⟨Nat.le_of_ble_eq_true rfl, Nat.le_of_ble_eq_true rfl⟩ dL_law_320 (fun r320 m320 => ?_)
                          refine nr_callVi (As := [.int r128, .int r320]) hC rfl (fun hI => tX5_between (t1 := t1) (t2 := t2) hI n r128 r320 m320) (cwV 2 hC.1.2.2.2.2 gL_law_X5_between rfl rfl rfl (by decide +kernel) ⟨Nat.le_of_ble_eq_true rfl, Nat.le_of_ble_eq_true rfl⟩) rfl (Nat.le_of_ble_eq_true rfl) ⟨Nat.le_of_ble_eq_true rfl, Nat.le_of_ble_eq_true rfl⟩ dL_law_323 (fun r323 m323 => ?_)
                          refine nr_goto (tgt := 375) hC dL_law_326 (by decide) ?_
                          refine nr_sub (lv' := [(7, .int r107), (4, .int x4), (3, .int x3), (2, .ref wa), (1, .ref (ad 228)), (0, .ref b)]) [2, 5, 6, 7, 8, 9] rfl ?_
                          exact J375 _ _ _
                        · refine nr_iload hC dL_law_329 3 rfl ?_
                          refine nr_bipush (v := 8) hC dL_law_331 (by decide) ?_
                          refine nr_icmp_ne (tgt := 343) hC dL_law_333 (by decide) (fun _ => ?_) (fun _ => ?_)
                          · refine nr_aload_n hC dL_law_336 rfl 8 rfl ?_
                            refine nr_callVi (As := []) hC rfl (fun hI => tX5_close (t1 := t1) (t2 := t2) hI n m128) (cwV 0 hC.1.2.2.2.2 gL_law_X5_close rfl rfl rfl (by decide +kernel) ⟨Nat.le_of_ble_eq_true rfl, Nat.le_of_ble_eq_true rfl⟩) rfl (Nat.le_of_ble_eq_true rfl) ⟨Nat.le_of_ble_eq_true rfl, Nat.le_of_ble_eq_true rfl⟩ dL_law_337 (fun r337 m337 => ?_)
                            refine nr_goto (tgt := 375) hC dL_law_340 (by decide) ?_
                            refine nr_sub (lv' := [(7, .int r107), (4, .int x4), (3, .int x3), (2, .ref wa), (1, .ref (ad 228)), (0, .ref b)]) [2, 5, 6, 7, 8, 9] rfl ?_
                            exact J375 _ _ _
                          · refine nr_aload_n hC dL_law_343 rfl 8 rfl ?_
                            refine nr_iload hC dL_law_344 4 rfl ?_
                            refine nr_iconst (v := 4) hC dL_law_346 (by decide) ?_
                            refine nr_ishr hC dL_law_347 ?_
                            refine nr_iconst (v := 3) hC dL_law_348 (by decide) ?_
                            refine nr_callSi (As := [.int (r62 >>> ((4 : Int32) &&& 31)), .int (3 : Int32)]) hC rfl (fun hI => tL_part (t1 := t1) (t2 := t2) hI n (r62 >>> ((4 : Int32) &&& 31)) (3 : Int32) m128) (va_cwS 2 hC.1.2.2.2.2 gL_law_L_part rfl rfl rfl (by decide +kernel) ⟨Nat.le_of_ble_eq_true rfl, Nat.le_of_ble_eq_true rfl⟩) rfl (Nat.le_of_ble_eq_true rfl) ⟨Nat.le_of_ble_eq_true rfl, Nat.le_of_ble_eq_true rfl⟩ dL_law_349 (fun r349 m349 => ?_)
                            refine nr_iload hC dL_law_352 4 rfl ?_
                            refine nr_bipush (v := 6) hC dL_law_354 (by decide) ?_
                            refine nr_ishr hC dL_law_356 ?_
                            refine nr_iconst (v := 4) hC dL_law_357 (by decide) ?_
                            refine nr_callSi (As := [.int (r62 >>> ((6 : Int32) &&& 31)), .int (4 : Int32)]) hC rfl (fun hI => tL_part (t1 := t1) (t2 := t2) hI n (r62 >>> ((6 : Int32) &&& 31)) (4 : Int32) m349) (va_cwS 2 hC.1.2.2.2.2 gL_law_L_part rfl rfl rfl (by decide +kernel) ⟨Nat.le_of_ble_eq_true rfl, Nat.le_of_ble_eq_true rfl⟩) rfl (Nat.le_of_ble_eq_true rfl) ⟨Nat.le_of_ble_eq_true rfl, Nat.le_of_ble_eq_true rfl⟩ dL_law_358 (fun r358 m358 => ?_)
                            refine nr_iload hC dL_law_361 4 rfl ?_
                            refine nr_bipush (v := 8) hC dL_law_363 (by decide) ?_
                            refine nr_ishr hC dL_law_365 ?_
                            refine nr_sipush (v := 9000) hC dL_law_366 (by decide) ?_
                            refine nr_callSi (As := [.int (r62 >>> ((8 : Int32) &&& 31)), .int (9000 : Int32)]) hC rfl (fun hI => tL_part (t1 := t1) (t2 := t2) hI n (r62 >>> ((8 : Int32) &&& 31)) (9000 : Int32) m358) (va_cwS 2 hC.1.2.2.2.2 gL_law_L_part rfl rfl rfl (by decide +kernel) ⟨Nat.le_of_ble_eq_true rfl, Nat.le_of_ble_eq_true rfl⟩) rfl (Nat.le_of_ble_eq_true rfl) ⟨Nat.le_of_ble_eq_true rfl, Nat.le_of_ble_eq_true rfl⟩ dL_law_369 (fun r369 m369 => ?_)
                            refine nr_callVi (As := [.int r349, .int r358, .int r369]) hC rfl (fun hI => tX5_correct (t1 := t1) (t2 := t2) hI n r349 r358 r369 m369) (cwV 3 hC.1.2.2.2.2 gL_law_X5_correct rfl rfl rfl (by decide +kernel) ⟨Nat.le_of_ble_eq_true rfl, Nat.le_of_ble_eq_true rfl⟩) rfl (Nat.le_of_ble_eq_true rfl) ⟨Nat.le_of_ble_eq_true rfl, Nat.le_of_ble_eq_true rfl⟩ dL_law_372 (fun r372 m372 => ?_)
                            refine nr_sub (lv' := [(7, .int r107), (4, .int x4), (3, .int x3), (2, .ref wa), (1, .ref (ad 228)), (0, .ref b)]) [2, 5, 6, 7, 8, 9] rfl ?_
                            exact J375 _ _ _
                · refine nr_aload_n hC dL_law_190 rfl 8 rfl ?_
                  refine nr_iload hC dL_law_191 1 rfl ?_
                  refine nr_iload hC dL_law_193 4 rfl ?_
                  refine nr_bipush (v := 7) hC dL_law_195 (by decide) ?_
                  refine nr_ishr hC dL_law_197 ?_
                  refine nr_sipush (v := 9000) hC dL_law_198 (by decide) ?_
                  refine nr_callSi (As := [.int (r62 >>> ((7 : Int32) &&& 31)), .int (9000 : Int32)]) hC rfl (fun hI => tL_part (t1 := t1) (t2 := t2) hI n (r62 >>> ((7 : Int32) &&& 31)) (9000 : Int32) m128) (va_cwS 2 hC.1.2.2.2.2 gL_law_L_part rfl rfl rfl (by decide +kernel) ⟨Nat.le_of_ble_eq_true rfl, Nat.le_of_ble_eq_true rfl⟩) rfl (Nat.le_of_ble_eq_true rfl) ⟨Nat.le_of_ble_eq_true rfl, Nat.le_of_ble_eq_true rfl⟩ dL_law_201 (fun r201 m201 => ?_)
                  refine nr_callVi (As := [.int r118, .int r201]) hC rfl (fun hI => tX5_read (t1 := t1) (t2 := t2) hI n r118 r201 m201) (cwV 2 hC.1.2.2.2.2 gL_law_X5_read rfl rfl rfl (by decide +kernel) ⟨Nat.le_of_ble_eq_true rfl, Nat.le_of_ble_eq_true rfl⟩) rfl (Nat.le_of_ble_eq_true rfl) ⟨Nat.le_of_ble_eq_true rfl, Nat.le_of_ble_eq_true rfl⟩ dL_law_204 (fun r204 m204 => ?_)
                  refine nr_goto (tgt := 375) hC dL_law_207 (by decide) ?_
                  refine nr_sub (lv' := [(7, .int r107), (4, .int x4), (3, .int x3), (2, .ref wa), (1, .ref (ad 228)), (0, .ref b)]) [2, 5, 6, 7, 8, 9] rfl ?_
                  exact J375 _ _ _
          · refine nr_iconst (v := 1) hC dL_law_84 (by decide) ?_
            refine nr_goto (tgt := 95) hC dL_law_85 (by decide) ?_
            refine nr_istore (lv' := [(6, .int (1 : Int32)), (5, .int r62), (4, .int x4), (3, .int x3), (2, .ref wa), (1, .ref (ad 228)), (0, .ref b)]) hC dL_law_95 (by decide) rfl ?_
            refine nr_aload_n hC dL_law_97 rfl 4 rfl ?_
            refine nr_iload_n hC dL_law_98 rfl 3 rfl ?_
            refine nr_aload_n hC dL_law_99 rfl 5 rfl ?_
            refine nr_callSl (As := [.ref (ad 228)]) hC rfl (fun hI => tL_seen (t1 := t1) (t2 := t2) hI n μ.1) (va_cwS 1 hC.1.2.2.2.2 gL_law_L_seen rfl rfl rfl (by decide +kernel) ⟨Nat.le_of_ble_eq_true rfl, Nat.le_of_ble_eq_true rfl⟩) rfl (Nat.le_of_ble_eq_true rfl) ⟨Nat.le_of_ble_eq_true rfl, Nat.le_of_ble_eq_true rfl⟩ dL_law_100 (fun r100 m100 => ?_)
            refine nr_last hC dL_law_103 ?_
            refine nr_aload_n hC dL_law_104 rfl 5 rfl ?_
            refine nr_bipush (v := 13) hC dL_law_105 (by decide) ?_
            refine nr_callVi (As := [.int (13 : Int32)]) hC rfl (fun hI => tX5_count (t1 := t1) (t2 := t2) hI n (13 : Int32) m100) (cwV 1 hC.1.2.2.2.2 gL_law_X5_count rfl rfl rfl (by decide +kernel) ⟨Nat.le_of_ble_eq_true rfl, Nat.le_of_ble_eq_true rfl⟩) rfl (Nat.le_of_ble_eq_true rfl) ⟨Nat.le_of_ble_eq_true rfl, Nat.le_of_ble_eq_true rfl⟩ dL_law_107 (fun r107 m107 => ?_)
            refine nr_istore (lv' := [(7, .int r107), (6, .int (1 : Int32)), (5, .int r62), (4, .int x4), (3, .int x3), (2, .ref wa), (1, .ref (ad 228)), (0, .ref b)]) hC dL_law_110 (by decide) rfl ?_
            refine nr_iload hC dL_law_112 2 rfl ?_
            refine nr_iconst (v := 4) hC dL_law_114 (by decide) ?_
            refine nr_ishr hC dL_law_115 ?_
            refine nr_bipush (v := 6) hC dL_law_116 (by decide) ?_
            refine nr_callSi (As := [.int (r62 >>> ((4 : Int32) &&& 31)), .int (6 : Int32)]) hC rfl (fun hI => tL_part (t1 := t1) (t2 := t2) hI n (r62 >>> ((4 : Int32) &&& 31)) (6 : Int32) m107) (va_cwS 2 hC.1.2.2.2.2 gL_law_L_part rfl rfl rfl (by decide +kernel) ⟨Nat.le_of_ble_eq_true rfl, Nat.le_of_ble_eq_true rfl⟩) rfl (Nat.le_of_ble_eq_true rfl) ⟨Nat.le_of_ble_eq_true rfl, Nat.le_of_ble_eq_true rfl⟩ dL_law_118 (fun r118 m118 => ?_)
            refine nr_istore (lv' := [(8, .int r118), (7, .int r107), (6, .int (1 : Int32)), (5, .int r62), (4, .int x4), (3, .int x3), (2, .ref wa), (1, .ref (ad 228)), (0, .ref b)]) hC dL_law_121 (by decide) rfl ?_
            refine nr_iload hC dL_law_123 3 rfl ?_
            refine nr_iconst (v := 4) hC dL_law_125 (by decide) ?_
            refine nr_ishr hC dL_law_126 ?_
            refine nr_iconst (v := 4) hC dL_law_127 (by decide) ?_
            refine nr_callSi (As := [.int (r62 >>> ((4 : Int32) &&& 31)), .int (4 : Int32)]) hC rfl (fun hI => tL_part (t1 := t1) (t2 := t2) hI n (r62 >>> ((4 : Int32) &&& 31)) (4 : Int32) m118) (va_cwS 2 hC.1.2.2.2.2 gL_law_L_part rfl rfl rfl (by decide +kernel) ⟨Nat.le_of_ble_eq_true rfl, Nat.le_of_ble_eq_true rfl⟩) rfl (Nat.le_of_ble_eq_true rfl) ⟨Nat.le_of_ble_eq_true rfl, Nat.le_of_ble_eq_true rfl⟩ dL_law_128 (fun r128 m128 => ?_)
            refine nr_istore (lv' := [(9, .int r128), (8, .int r118), (7, .int r107), (6, .int (1 : Int32)), (5, .int r62), (4, .int x4), (3, .int x3), (2, .ref wa), (1, .ref (ad 228)), (0, .ref b)]) hC dL_law_131 (by decide) rfl ?_
            refine nr_iload hC dL_law_133 3 rfl ?_
            refine nr_if_neT (tgt := 157) hC dL_law_135 (by decide) (by decide) ?_
            refine nr_iload hC dL_law_157 3 rfl ?_
            refine nr_iconst (v := 1) hC dL_law_159 (by decide) ?_
            refine nr_icmp_neF (tgt := 184) hC dL_law_160 (by decide) (by decide) ?_
            refine nr_aload_n hC dL_law_163 rfl 8 rfl ?_
            refine nr_iload hC dL_law_164 0 rfl ?_
            refine nr_iconst (v := 1) hC dL_law_166 (by decide) ?_
            refine nr_iload hC dL_law_167 4 rfl ?_
            refine nr_bipush (v := 7) hC dL_law_169 (by decide) ?_
            refine nr_ishr hC dL_law_171 ?_
            refine nr_bipush (v := 20) hC dL_law_172 (by decide) ?_
            refine nr_callSi (As := [.int (r62 >>> ((7 : Int32) &&& 31)), .int (20 : Int32)]) hC rfl (fun hI => tL_part (t1 := t1) (t2 := t2) hI n (r62 >>> ((7 : Int32) &&& 31)) (20 : Int32) m128) (va_cwS 2 hC.1.2.2.2.2 gL_law_L_part rfl rfl rfl (by decide +kernel) ⟨Nat.le_of_ble_eq_true rfl, Nat.le_of_ble_eq_true rfl⟩) rfl (Nat.le_of_ble_eq_true rfl) ⟨Nat.le_of_ble_eq_true rfl, Nat.le_of_ble_eq_true rfl⟩ dL_law_174 (fun r174 m174 => ?_)
            refine nr_iadd hC dL_law_177 ?_
            refine nr_callVi (As := [.int r128, .int ((1 : Int32) + r174)]) hC rfl (fun hI => tX5_addDevice (t1 := t1) (t2 := t2) hI n r128 ((1 : Int32) + r174) m174) (cwV 2 hC.1.2.2.2.2 gL_law_X5_addDevice rfl rfl rfl (by decide +kernel) ⟨Nat.le_of_ble_eq_true rfl, Nat.le_of_ble_eq_true rfl⟩) rfl (Nat.le_of_ble_eq_true rfl) ⟨Nat.le_of_ble_eq_true rfl, Nat.le_of_ble_eq_true rfl⟩ dL_law_178 (fun r178 m178 => ?_)
            refine nr_goto (tgt := 375) hC dL_law_181 (by decide) ?_
            refine nr_sub (lv' := [(7, .int r107), (4, .int x4), (3, .int x3), (2, .ref wa), (1, .ref (ad 228)), (0, .ref b)]) [2, 5, 6, 7, 8, 9] rfl ?_
            exact J375 _ _ _
        · refine nr_iconst (v := 0) hC dL_law_73 (by decide) ?_
          refine nr_goto (tgt := 95) hC dL_law_74 (by decide) ?_
          refine nr_istore (lv' := [(6, .int (0 : Int32)), (5, .int r62), (4, .int x4), (3, .int x3), (2, .ref wa), (1, .ref (ad 228)), (0, .ref b)]) hC dL_law_95 (by decide) rfl ?_
          refine nr_aload_n hC dL_law_97 rfl 4 rfl ?_
          refine nr_iload_n hC dL_law_98 rfl 3 rfl ?_
          refine nr_aload_n hC dL_law_99 rfl 5 rfl ?_
          refine nr_callSl (As := [.ref (ad 228)]) hC rfl (fun hI => tL_seen (t1 := t1) (t2 := t2) hI n μ.1) (va_cwS 1 hC.1.2.2.2.2 gL_law_L_seen rfl rfl rfl (by decide +kernel) ⟨Nat.le_of_ble_eq_true rfl, Nat.le_of_ble_eq_true rfl⟩) rfl (Nat.le_of_ble_eq_true rfl) ⟨Nat.le_of_ble_eq_true rfl, Nat.le_of_ble_eq_true rfl⟩ dL_law_100 (fun r100 m100 => ?_)
          refine nr_last hC dL_law_103 ?_
          refine nr_aload_n hC dL_law_104 rfl 5 rfl ?_
          refine nr_bipush (v := 13) hC dL_law_105 (by decide) ?_
          refine nr_callVi (As := [.int (13 : Int32)]) hC rfl (fun hI => tX5_count (t1 := t1) (t2 := t2) hI n (13 : Int32) m100) (cwV 1 hC.1.2.2.2.2 gL_law_X5_count rfl rfl rfl (by decide +kernel) ⟨Nat.le_of_ble_eq_true rfl, Nat.le_of_ble_eq_true rfl⟩) rfl (Nat.le_of_ble_eq_true rfl) ⟨Nat.le_of_ble_eq_true rfl, Nat.le_of_ble_eq_true rfl⟩ dL_law_107 (fun r107 m107 => ?_)
          refine nr_istore (lv' := [(7, .int r107), (6, .int (0 : Int32)), (5, .int r62), (4, .int x4), (3, .int x3), (2, .ref wa), (1, .ref (ad 228)), (0, .ref b)]) hC dL_law_110 (by decide) rfl ?_
          refine nr_iload hC dL_law_112 2 rfl ?_
          refine nr_iconst (v := 4) hC dL_law_114 (by decide) ?_
          refine nr_ishr hC dL_law_115 ?_
          refine nr_bipush (v := 6) hC dL_law_116 (by decide) ?_
          refine nr_callSi (As := [.int (r62 >>> ((4 : Int32) &&& 31)), .int (6 : Int32)]) hC rfl (fun hI => tL_part (t1 := t1) (t2 := t2) hI n (r62 >>> ((4 : Int32) &&& 31)) (6 : Int32) m107) (va_cwS 2 hC.1.2.2.2.2 gL_law_L_part rfl rfl rfl (by decide +kernel) ⟨Nat.le_of_ble_eq_true rfl, Nat.le_of_ble_eq_true rfl⟩) rfl (Nat.le_of_ble_eq_true rfl) ⟨Nat.le_of_ble_eq_true rfl, Nat.le_of_ble_eq_true rfl⟩ dL_law_118 (fun r118 m118 => ?_)
          refine nr_istore (lv' := [(8, .int r118), (7, .int r107), (6, .int (0 : Int32)), (5, .int r62), (4, .int x4), (3, .int x3), (2, .ref wa), (1, .ref (ad 228)), (0, .ref b)]) hC dL_law_121 (by decide) rfl ?_
          refine nr_iload hC dL_law_123 3 rfl ?_
          refine nr_iconst (v := 4) hC dL_law_125 (by decide) ?_
          refine nr_ishr hC dL_law_126 ?_
          refine nr_iconst (v := 4) hC dL_law_127 (by decide) ?_
          refine nr_callSi (As := [.int (r62 >>> ((4 : Int32) &&& 31)), .int (4 : Int32)]) hC rfl (fun hI => tL_part (t1 := t1) (t2 := t2) hI n (r62 >>> ((4 : Int32) &&& 31)) (4 : Int32) m118) (va_cwS 2 hC.1.2.2.2.2 gL_law_L_part rfl rfl rfl (by decide +kernel) ⟨Nat.le_of_ble_eq_true rfl, Nat.le_of_ble_eq_true rfl⟩) rfl (Nat.le_of_ble_eq_true rfl) ⟨Nat.le_of_ble_eq_true rfl, Nat.le_of_ble_eq_true rfl⟩ dL_law_128 (fun r128 m128 => ?_)
          refine nr_istore (lv' := [(9, .int r128), (8, .int r118), (7, .int r107), (6, .int (0 : Int32)), (5, .int r62), (4, .int x4), (3, .int x3), (2, .ref wa), (1, .ref (ad 228)), (0, .ref b)]) hC dL_law_131 (by decide) rfl ?_
          refine nr_iload hC dL_law_133 3 rfl ?_
          refine nr_if_neF (tgt := 157) hC dL_law_135 (by decide) (by decide) ?_
          refine nr_aload_n hC dL_law_138 rfl 8 rfl ?_
          refine nr_iconst (v := 1) hC dL_law_139 (by decide) ?_
          refine nr_iload hC dL_law_140 4 rfl ?_
          refine nr_iconst (v := 4) hC dL_law_142 (by decide) ?_
          refine nr_ishr hC dL_law_143 ?_
          refine nr_sipush (v := 200) hC dL_law_144 (by decide) ?_
          refine nr_callSi (As := [.int (r62 >>> ((4 : Int32) &&& 31)), .int (200 : Int32)]) hC rfl (fun hI => tL_part (t1 := t1) (t2 := t2) hI n (r62 >>> ((4 : Int32) &&& 31)) (200 : Int32) m128) (va_cwS 2 hC.1.2.2.2.2 gL_law_L_part rfl rfl rfl (by decide +kernel) ⟨Nat.le_of_ble_eq_true rfl, Nat.le_of_ble_eq_true rfl⟩) rfl (Nat.le_of_ble_eq_true rfl) ⟨Nat.le_of_ble_eq_true rfl, Nat.le_of_ble_eq_true rfl⟩ dL_law_147 (fun r147 m147 => ?_)
          refine nr_iadd hC dL_law_150 ?_
          refine nr_callVi (As := [.int ((1 : Int32) + r147)]) hC rfl (fun hI => tX5_addFlat (t1 := t1) (t2 := t2) hI n ((1 : Int32) + r147) m147) (cwV 1 hC.1.2.2.2.2 gL_law_X5_addFlat rfl rfl rfl (by decide +kernel) ⟨Nat.le_of_ble_eq_true rfl, Nat.le_of_ble_eq_true rfl⟩) rfl (Nat.le_of_ble_eq_true rfl) ⟨Nat.le_of_ble_eq_true rfl, Nat.le_of_ble_eq_true rfl⟩ dL_law_151 (fun r151 m151 => ?_)
          refine nr_goto (tgt := 375) hC dL_law_154 (by decide) ?_
          refine nr_sub (lv' := [(7, .int r107), (4, .int x4), (3, .int x3), (2, .ref wa), (1, .ref (ad 228)), (0, .ref b)]) [2, 5, 6, 7, 8, 9] rfl ?_
          exact J375 _ _ _
  have L508 : ∀ (ad : Nat → Nat) (wa : Nat) (v4 : Int32) (v3 : Int32) (k : Int32 → lm → Option Int32) (hk : ∀ (x5 : Int32) (μ : lm), nV p l e room_1 s m #[Value.ref b] below meth c 11 D cI cZ cC cJ cY cH Q (some ad, some wa) 4821 63804 μ 558 [(5, .int x5), (4, .int v4), (3, .int v3), (2, .ref wa), (1, .ref (ad 228))] [] (k x5 μ)) (f : Nat) (x5 : Int32) (μ : lm), nV p l e room_1 s m #[Value.ref b] below meth c 11 D cI cZ cC cJ cY cH Q (some ad, some wa) 4821 63804 μ 508 [(5, .int x5), (4, .int v4), (3, .int v3), (2, .ref wa), (1, .ref (ad 228))] [] (lL_law_508 n (drw xs L) v4 v3 k f x5 μ) := by
    intro ad wa v4 v3 k hk f
    induction f with
    | zero => intro x5 μ; rw [lL_law_508]; exact nr_none
    | succ f ih =>
      intro x5 μ
      rw [lL_law_508]
      refine nr_aload_n hC dL_law_508 rfl 4 rfl ?_
      refine nr_bipush (v := 13) hC dL_law_509 (by decide) ?_
      refine nr_callVi (As := [.int (13 : Int32)]) hC rfl (fun hI => tX5_count (t1 := t1) (t2 := t2) hI n (13 : Int32) μ.1) (cwV 1 hC.1.2.2.2.2 gL_law_X5_count rfl rfl rfl (by decide +kernel) ⟨Nat.le_of_ble_eq_true rfl, Nat.le_of_ble_eq_true rfl⟩) rfl (Nat.le_of_ble_eq_true rfl) ⟨Nat.le_of_ble_eq_true rfl, Nat.le_of_ble_eq_true rfl⟩ dL_law_511 (fun r511 m511 => ?_)
      refine nr_if_le (tgt := 558) hC dL_law_514 (by decide) (fun _ => ?_) (fun _ => ?_)
      · refine nr_sub (lv' := [(5, .int x5), (4, .int v4), (3, .int v3), (2, .ref wa), (1, .ref (ad 228))]) [0, 1, 2, 3, 4] rfl ?_
        exact hk _ _
      · refine nr_iload hC dL_law_517 0 rfl ?_
        refine nr_iload_n hC dL_law_519 rfl 2 rfl ?_
        refine nr_icmp_ge (tgt := 558) hC dL_law_520 (by decide) (fun _ => ?_) (fun _ => ?_)
        · refine nr_sub (lv' := [(5, .int x5), (4, .int v4), (3, .int v3), (2, .ref wa), (1, .ref (ad 228))]) [0, 1, 2, 3, 4] rfl ?_
          exact hk _ _
        · refine nr_iload hC dL_law_523 0 rfl ?_
          refine nr_iconst (v := 4) hC dL_law_525 (by decide) ?_
          refine nr_icmp_gt (tgt := 550) hC dL_law_526 (by decide) (fun _ => ?_) (fun _ => ?_)
          · refine nr_iconst (v := 0) hC dL_law_550 (by decide) ?_
            exact nr_lawret hC hE (Nat.le_of_ble_eq_true rfl) (Nat.le_of_ble_eq_true rfl) dL_law_551
          · refine nr_aload_n hC dL_law_529 rfl 4 rfl ?_
            refine nr_callSl (As := [.ref (ad 228)]) hC rfl (fun hI => tL_seen (t1 := t1) (t2 := t2) hI n m511) (va_cwS 1 hC.1.2.2.2.2 gL_law_L_seen rfl rfl rfl (by decide +kernel) ⟨Nat.le_of_ble_eq_true rfl, Nat.le_of_ble_eq_true rfl⟩) rfl (Nat.le_of_ble_eq_true rfl) ⟨Nat.le_of_ble_eq_true rfl, Nat.le_of_ble_eq_true rfl⟩ dL_law_530 (fun r530 m530 => ?_)
            refine nr_aload_n hC dL_law_533 rfl 3 rfl ?_
            refine nr_iload_n hC dL_law_534 rfl 2 rfl ?_
            refine nr_iload hC dL_law_535 0 rfl ?_
            refine nr_isub hC dL_law_537 ?_
            refine nr_lald hC dL_law_538 ?_
            refine nr_lcmp hC dL_law_539 ?_
            refine nr_if_ne (tgt := 550) hC dL_law_540 (by decide) (fun _ => ?_) (fun _ => ?_)
            · refine nr_aload_n hC dL_law_543 rfl 4 rfl ?_
              refine nr_callVi (As := []) hC rfl (fun hI => tX5_undo (t1 := t1) (t2 := t2) hI n m530) (cwV 0 hC.1.2.2.2.2 gL_law_X5_undo rfl rfl rfl (by decide +kernel) ⟨Nat.le_of_ble_eq_true rfl, Nat.le_of_ble_eq_true rfl⟩) rfl (Nat.le_of_ble_eq_true rfl) ⟨Nat.le_of_ble_eq_true rfl, Nat.le_of_ble_eq_true rfl⟩ dL_law_544 (fun r544 m544 => ?_)
              refine nr_if_ge (tgt := 552) hC dL_law_547 (by decide) (fun _ => ?_) (fun _ => ?_)
              · refine nr_iinc (v := (x5 + (1 : Int32))) (lv' := [(5, .int (x5 + (1 : Int32))), (4, .int v4), (3, .int v3), (2, .ref wa), (1, .ref (ad 228))]) (kx := 0) hC dL_law_552 rfl rfl (by decide) rfl ?_
                refine nr_goto (tgt := 508) hC dL_law_555 (by decide) ?_
                refine nr_sub (lv' := [(5, .int (x5 + (1 : Int32))), (4, .int v4), (3, .int v3), (2, .ref wa), (1, .ref (ad 228))]) [0, 1, 2, 3, 4] rfl ?_
                exact ih _ _
              · refine nr_iconst (v := 0) hC dL_law_550 (by decide) ?_
                exact nr_lawret hC hE (Nat.le_of_ble_eq_true rfl) (Nat.le_of_ble_eq_true rfl) dL_law_551
            · refine nr_iconst (v := 0) hC dL_law_550 (by decide) ?_
              exact nr_lawret hC hE (Nat.le_of_ble_eq_true rfl) (Nat.le_of_ble_eq_true rfl) dL_law_551
  rw [fL_law]
  refine nr_callN (As := []) hC rfl (tL_years n) nR_blind (fun U H locs hU hWm hS => nR_at hC.2.1 hU hWm hS) (va_cwS 0 hC.1.2.2.2.2 gL_law_L_years rfl rfl rfl (by decide +kernel) ⟨Nat.le_of_ble_eq_true rfl, Nat.le_of_ble_eq_true rfl⟩) rfl (Nat.le_of_ble_eq_true rfl) ⟨Nat.le_of_ble_eq_true rfl, Nat.le_of_ble_eq_true rfl⟩ dL_law_0 (fun r0 => ?_)
  refine nr_if_eq (tgt := 12) hC dL_law_3 (by decide) (fun _ => ?_) (fun _ => ?_)
  · refine nr_iconst (v := 0) hC dL_law_12 (by decide) ?_
    exact nr_lawret hC hE (Nat.le_of_ble_eq_true rfl) (Nat.le_of_ble_eq_true rfl) dL_law_13
  · refine nr_callN (As := []) hC rfl (tL_texts n) nR_blind (fun U H locs hU hWm hS => nR_at hC.2.1 hU hWm hS) (va_cwS 0 hC.1.2.2.2.2 gL_law_L_texts rfl rfl rfl (by decide +kernel) ⟨Nat.le_of_ble_eq_true rfl, Nat.le_of_ble_eq_true rfl⟩) rfl (Nat.le_of_ble_eq_true rfl) ⟨Nat.le_of_ble_eq_true rfl, Nat.le_of_ble_eq_true rfl⟩ dL_law_6 (fun r6 => ?_)
    refine nr_if_ne (tgt := 14) hC dL_law_9 (by decide) (fun _ => ?_) (fun _ => ?_)
    · refine nr_iconst (v := 0) hC dL_law_12 (by decide) ?_
      exact nr_lawret hC hE (Nat.le_of_ble_eq_true rfl) (Nat.le_of_ble_eq_true rfl) dL_law_13
    · refine nr_new hC inlX5 hmL_law_cl hmL_law_in hmL_law_ini (cwI 0 hC.1.2.2.2.2 gL_law_X5_init rfl rfl rfl (hC.1.2.2.2.2 _ hmL_law_ini) (hC.1.2.2.2.2 _ hmL_law_ml) (hC.1.2.2.2.2 _ hmL_law_im) rfl (by decide +kernel) ⟨Nat.le_of_ble_eq_true rfl, Nat.le_of_ble_eq_true rfl⟩) (Nat.le_of_ble_eq_true rfl) (Nat.le_of_ble_eq_true rfl) (Nat.le_of_ble_eq_true rfl) dL_law_14 dL_law_17 dL_law_18 (fun ad => ?_)
      refine nr_astore_n (lv' := [(1, .ref (ad 228)), (0, .ref b)]) hC dL_law_21 rfl (by decide) rfl ?_
      refine nr_bipush (v := 64) hC dL_law_22 (by decide) ?_
      refine nr_newa hC hmL_law_arrJ (Nat.le_of_ble_eq_true rfl) (Nat.le_of_ble_eq_true rfl) dL_law_24 (fun wa => ?_)
      refine nr_astore_n (lv' := [(2, .ref wa), (1, .ref (ad 228)), (0, .ref b)]) hC dL_law_26 rfl (by decide) rfl ?_
      refine nr_iconst (v := 0) hC dL_law_27 (by decide) ?_
      refine nr_istore_n (lv' := [(3, .int (0 : Int32)), (2, .ref wa), (1, .ref (ad 228)), (0, .ref b)]) hC dL_law_28 rfl (by decide) rfl ?_
      refine nr_aload_n hC dL_law_29 rfl 2 rfl ?_
      refine nr_bipush (v := 60) hC dL_law_30 (by decide) ?_
      refine nr_callVi (As := [.int (60 : Int32)]) hC rfl (fun hI => tX5_addFlat (t1 := t1) (t2 := t2) hI n (60 : Int32) mz) (cwV 1 hC.1.2.2.2.2 gL_law_X5_addFlat rfl rfl rfl (by decide +kernel) ⟨Nat.le_of_ble_eq_true rfl, Nat.le_of_ble_eq_true rfl⟩) rfl (Nat.le_of_ble_eq_true rfl) ⟨Nat.le_of_ble_eq_true rfl, Nat.le_of_ble_eq_true rfl⟩ dL_law_32 (fun r32 m32 => ?_)
      refine nr_if_ne (tgt := 47) hC dL_law_35 (by decide) (fun _ => ?_) (fun _ => ?_)
      · refine nr_aload_n hC dL_law_38 rfl 2 rfl ?_
        refine nr_iconst (v := 0) hC dL_law_39 (by decide) ?_
        refine nr_iconst (v := 2) hC dL_law_40 (by decide) ?_
        refine nr_callVi (As := [.int (0 : Int32), .int (2 : Int32)]) hC rfl (fun hI => tX5_addDevice (t1 := t1) (t2 := t2) hI n (0 : Int32) (2 : Int32) m32) (cwV 2 hC.1.2.2.2.2 gL_law_X5_addDevice rfl rfl rfl (by decide +kernel) ⟨Nat.le_of_ble_eq_true rfl, Nat.le_of_ble_eq_true rfl⟩) rfl (Nat.le_of_ble_eq_true rfl) ⟨Nat.le_of_ble_eq_true rfl, Nat.le_of_ble_eq_true rfl⟩ dL_law_41 (fun r41 m41 => ?_)
        refine nr_if_eq (tgt := 49) hC dL_law_44 (by decide) (fun _ => ?_) (fun _ => ?_)
        · refine nr_iconst (v := 0) hC dL_law_49 (by decide) ?_
          refine nr_istore (lv' := [(4, .int (0 : Int32)), (3, .int (0 : Int32)), (2, .ref wa), (1, .ref (ad 228)), (0, .ref b)]) hC dL_law_50 (by decide) rfl ?_
          refine nr_sub (lv' := [(4, .int (0 : Int32)), (3, .int (0 : Int32)), (2, .ref wa), (1, .ref (ad 228)), (0, .ref b)]) [0, 1, 2, 3, 4] rfl ?_
          refine L52 ad wa _ (fun x4_52 x3_52 m52 => ?_) _ _ _ _
          refine nr_aload_n hC dL_law_425 rfl 2 rfl ?_
          refine nr_iload_n hC dL_law_426 rfl 1 rfl ?_
          refine nr_aload_n hC dL_law_427 rfl 3 rfl ?_
          refine nr_callSl (As := [.ref (ad 228)]) hC rfl (fun hI => tL_seen (t1 := t1) (t2 := t2) hI n m52.1) (va_cwS 1 hC.1.2.2.2.2 gL_law_L_seen rfl rfl rfl (by decide +kernel) ⟨Nat.le_of_ble_eq_true rfl, Nat.le_of_ble_eq_true rfl⟩) rfl (Nat.le_of_ble_eq_true rfl) ⟨Nat.le_of_ble_eq_true rfl, Nat.le_of_ble_eq_true rfl⟩ dL_law_428 (fun r428 m428 => ?_)
          refine nr_last hC dL_law_431 ?_
          refine nr_aload_n hC dL_law_432 rfl 3 rfl ?_
          refine nr_iconst (v := 0) hC dL_law_433 (by decide) ?_
          refine nr_callVi (As := [.int (0 : Int32)]) hC rfl (fun hI => tX5_count (t1 := t1) (t2 := t2) hI n (0 : Int32) m428) (cwV 1 hC.1.2.2.2.2 gL_law_X5_count rfl rfl rfl (by decide +kernel) ⟨Nat.le_of_ble_eq_true rfl, Nat.le_of_ble_eq_true rfl⟩) rfl (Nat.le_of_ble_eq_true rfl) ⟨Nat.le_of_ble_eq_true rfl, Nat.le_of_ble_eq_true rfl⟩ dL_law_434 (fun r434 m434 => ?_)
          refine nr_istore (lv' := [(4, .int r434), (3, .int x3_52), (2, .ref wa), (1, .ref (ad 228)), (0, .ref b)]) hC dL_law_437 (by decide) rfl ?_
          refine nr_aload_n hC dL_law_439 rfl 3 rfl ?_
          refine nr_callVi (As := []) hC rfl (fun hI => tX5_keep (t1 := t1) (t2 := t2) hI n m434) (cwV 0 hC.1.2.2.2.2 gL_law_X5_keep rfl rfl rfl (by decide +kernel) ⟨Nat.le_of_ble_eq_true rfl, Nat.le_of_ble_eq_true rfl⟩) rfl (Nat.le_of_ble_eq_true rfl) ⟨Nat.le_of_ble_eq_true rfl, Nat.le_of_ble_eq_true rfl⟩ dL_law_440 (fun r440 m440 => ?_)
          refine nr_iload hC dL_law_443 0 rfl ?_
          refine nr_icmp_ne (tgt := 503) hC dL_law_445 (by decide) (fun _ => ?_) (fun _ => ?_)
          · refine nr_aload_n hC dL_law_448 rfl 3 rfl ?_
            refine nr_iconst (v := 0) hC dL_law_449 (by decide) ?_
            refine nr_aload_n hC dL_law_450 rfl 3 rfl ?_
            refine nr_iconst (v := 4) hC dL_law_451 (by decide) ?_
            refine nr_callVi (As := [.int (4 : Int32)]) hC rfl (fun hI => tX5_count (t1 := t1) (t2 := t2) hI n (4 : Int32) m440) (cwV 1 hC.1.2.2.2.2 gL_law_X5_count rfl rfl rfl (by decide +kernel) ⟨Nat.le_of_ble_eq_true rfl, Nat.le_of_ble_eq_true rfl⟩) rfl (Nat.le_of_ble_eq_true rfl) ⟨Nat.le_of_ble_eq_true rfl, Nat.le_of_ble_eq_true rfl⟩ dL_law_452 (fun r452 m452 => ?_)
            refine nr_iconst (v := 1) hC dL_law_455 (by decide) ?_
            refine nr_iadd hC dL_law_456 ?_
            refine nr_callVi (As := [.int (0 : Int32), .int (r452 + (1 : Int32))]) hC rfl (fun hI => tX5_set (t1 := t1) (t2 := t2) hI n (0 : Int32) (r452 + (1 : Int32)) m452) (cwV 2 hC.1.2.2.2.2 gL_law_X5_set rfl rfl rfl (by decide +kernel) ⟨Nat.le_of_ble_eq_true rfl, Nat.le_of_ble_eq_true rfl⟩) rfl (Nat.le_of_ble_eq_true rfl) ⟨Nat.le_of_ble_eq_true rfl, Nat.le_of_ble_eq_true rfl⟩ dL_law_457 (fun r457 m457 => ?_)
            refine nr_if_lt (tgt := 503) hC dL_law_460 (by decide) (fun _ => ?_) (fun _ => ?_)
            · refine nr_iconst (v := 0) hC dL_law_503 (by decide) ?_
              exact nr_lawret hC hE (Nat.le_of_ble_eq_true rfl) (Nat.le_of_ble_eq_true rfl) dL_law_504
            · refine nr_aload_n hC dL_law_463 rfl 3 rfl ?_
              refine nr_iconst (v := 1) hC dL_law_464 (by decide) ?_
              refine nr_aload_n hC dL_law_465 rfl 3 rfl ?_
              refine nr_iconst (v := 5) hC dL_law_466 (by decide) ?_
              refine nr_callVi (As := [.int (5 : Int32)]) hC rfl (fun hI => tX5_count (t1 := t1) (t2 := t2) hI n (5 : Int32) m457) (cwV 1 hC.1.2.2.2.2 gL_law_X5_count rfl rfl rfl (by decide +kernel) ⟨Nat.le_of_ble_eq_true rfl, Nat.le_of_ble_eq_true rfl⟩) rfl (Nat.le_of_ble_eq_true rfl) ⟨Nat.le_of_ble_eq_true rfl, Nat.le_of_ble_eq_true rfl⟩ dL_law_467 (fun r467 m467 => ?_)
              refine nr_iconst (v := 1) hC dL_law_470 (by decide) ?_
              refine nr_iadd hC dL_law_471 ?_
              refine nr_bipush (v := 101) hC dL_law_472 (by decide) ?_
              refine nr_irem hC dL_law_474 (by decide) ?_
              refine nr_callVi (As := [.int (1 : Int32), .int ((r467 + (1 : Int32)) - (r467 + (1 : Int32)) / (101 : Int32) * (101 : Int32))]) hC rfl (fun hI => tX5_set (t1 := t1) (t2 := t2) hI n (1 : Int32) ((r467 + (1 : Int32)) - (r467 + (1 : Int32)) / (101 : Int32) * (101 : Int32)) m467) (cwV 2 hC.1.2.2.2.2 gL_law_X5_set rfl rfl rfl (by decide +kernel) ⟨Nat.le_of_ble_eq_true rfl, Nat.le_of_ble_eq_true rfl⟩) rfl (Nat.le_of_ble_eq_true rfl) ⟨Nat.le_of_ble_eq_true rfl, Nat.le_of_ble_eq_true rfl⟩ dL_law_475 (fun r475 m475 => ?_)
              refine nr_if_lt (tgt := 503) hC dL_law_478 (by decide) (fun _ => ?_) (fun _ => ?_)
              · refine nr_iconst (v := 0) hC dL_law_503 (by decide) ?_
                exact nr_lawret hC hE (Nat.le_of_ble_eq_true rfl) (Nat.le_of_ble_eq_true rfl) dL_law_504
              · refine nr_aload_n hC dL_law_481 rfl 3 rfl ?_
                refine nr_callSi (As := [.ref (ad 228)]) hC rfl (fun hI => tL_refused (t1 := t1) (t2 := t2) hI n m475) (va_cwS 1 hC.1.2.2.2.2 gL_law_L_refused rfl rfl rfl (by decide +kernel) ⟨Nat.le_of_ble_eq_true rfl, Nat.le_of_ble_eq_true rfl⟩) rfl (Nat.le_of_ble_eq_true rfl) ⟨Nat.le_of_ble_eq_true rfl, Nat.le_of_ble_eq_true rfl⟩ dL_law_482 (fun r482 m482 => ?_)
                refine nr_if_eq (tgt := 503) hC dL_law_485 (by decide) (fun _ => ?_) (fun _ => ?_)
                · refine nr_iconst (v := 0) hC dL_law_503 (by decide) ?_
                  exact nr_lawret hC hE (Nat.le_of_ble_eq_true rfl) (Nat.le_of_ble_eq_true rfl) dL_law_504
                · refine nr_aload_n hC dL_law_488 rfl 3 rfl ?_
                  refine nr_callVi (As := []) hC rfl (fun hI => tX5_undo (t1 := t1) (t2 := t2) hI n m482) (cwV 0 hC.1.2.2.2.2 gL_law_X5_undo rfl rfl rfl (by decide +kernel) ⟨Nat.le_of_ble_eq_true rfl, Nat.le_of_ble_eq_true rfl⟩) rfl (Nat.le_of_ble_eq_true rfl) ⟨Nat.le_of_ble_eq_true rfl, Nat.le_of_ble_eq_true rfl⟩ dL_law_489 (fun r489 m489 => ?_)
                  refine nr_iconst (v := 1) hC dL_law_492 (by decide) ?_
                  refine nr_icmp_lt (tgt := 503) hC dL_law_493 (by decide) (fun _ => ?_) (fun _ => ?_)
                  · refine nr_iconst (v := 0) hC dL_law_503 (by decide) ?_
                    exact nr_lawret hC hE (Nat.le_of_ble_eq_true rfl) (Nat.le_of_ble_eq_true rfl) dL_law_504
                  · refine nr_aload_n hC dL_law_496 rfl 3 rfl ?_
                    refine nr_callVi (As := []) hC rfl (fun hI => tX5_undo (t1 := t1) (t2 := t2) hI n m489) (cwV 0 hC.1.2.2.2.2 gL_law_X5_undo rfl rfl rfl (by decide +kernel) ⟨Nat.le_of_ble_eq_true rfl, Nat.le_of_ble_eq_true rfl⟩) rfl (Nat.le_of_ble_eq_true rfl) ⟨Nat.le_of_ble_eq_true rfl, Nat.le_of_ble_eq_true rfl⟩ dL_law_497 (fun r497 m497 => ?_)
                    refine nr_if_ge (tgt := 505) hC dL_law_500 (by decide) (fun _ => ?_) (fun _ => ?_)
                    · refine nr_iconst (v := 0) hC dL_law_505 (by decide) ?_
                      refine nr_istore (lv' := [(5, .int (0 : Int32)), (4, .int r434), (3, .int x3_52), (2, .ref wa), (1, .ref (ad 228)), (0, .ref b)]) hC dL_law_506 (by decide) rfl ?_
                      refine nr_sub (lv' := [(5, .int (0 : Int32)), (4, .int r434), (3, .int x3_52), (2, .ref wa), (1, .ref (ad 228))]) [0, 1, 2, 3, 4] rfl ?_
                      refine L508 ad wa _ _ _ (fun x5_508 m508 => ?_) _ _ _
                      refine nr_aload_n hC dL_law_558 rfl 4 rfl ?_
                      refine nr_bipush (v := 13) hC dL_law_559 (by decide) ?_
                      refine nr_callVi (As := [.int (13 : Int32)]) hC rfl (fun hI => tX5_count (t1 := t1) (t2 := t2) hI n (13 : Int32) m508.1) (cwV 1 hC.1.2.2.2.2 gL_law_X5_count rfl rfl rfl (by decide +kernel) ⟨Nat.le_of_ble_eq_true rfl, Nat.le_of_ble_eq_true rfl⟩) rfl (Nat.le_of_ble_eq_true rfl) ⟨Nat.le_of_ble_eq_true rfl, Nat.le_of_ble_eq_true rfl⟩ dL_law_561 (fun r561 m561 => ?_)
                      refine nr_if_gt (tgt := 606) hC dL_law_564 (by decide) (fun _ => ?_) (fun _ => ?_)
                      · refine nr_iconst (v := 1) hC dL_law_606 (by decide) ?_
                        refine nr_goto (tgt := 611) hC dL_law_607 (by decide) ?_
                        exact nr_lawret hC hE (Nat.le_of_ble_eq_true rfl) (Nat.le_of_ble_eq_true rfl) dL_law_611
                      · refine nr_aload_n hC dL_law_567 rfl 4 rfl ?_
                        refine nr_callVi (As := []) hC rfl (fun hI => tX5_undo (t1 := t1) (t2 := t2) hI n m561) (cwV 0 hC.1.2.2.2.2 gL_law_X5_undo rfl rfl rfl (by decide +kernel) ⟨Nat.le_of_ble_eq_true rfl, Nat.le_of_ble_eq_true rfl⟩) rfl (Nat.le_of_ble_eq_true rfl) ⟨Nat.le_of_ble_eq_true rfl, Nat.le_of_ble_eq_true rfl⟩ dL_law_568 (fun r568 m568 => ?_)
                        refine nr_bipush (v := -5) hC dL_law_571 (by decide) ?_
                        refine nr_icmp_ne (tgt := 610) hC dL_law_573 (by decide) (fun _ => ?_) (fun _ => ?_)
                        · refine nr_aload_n hC dL_law_576 rfl 4 rfl ?_
                          refine nr_callVi (As := []) hC rfl (fun hI => tX5_restore (t1 := t1) (t2 := t2) hI n m568) (cwV 0 hC.1.2.2.2.2 gL_law_X5_restore rfl rfl rfl (by decide +kernel) ⟨Nat.le_of_ble_eq_true rfl, Nat.le_of_ble_eq_true rfl⟩) rfl (Nat.le_of_ble_eq_true rfl) ⟨Nat.le_of_ble_eq_true rfl, Nat.le_of_ble_eq_true rfl⟩ dL_law_577 (fun r577 m577 => ?_)
                          refine nr_iload hC dL_law_580 1 rfl ?_
                          refine nr_icmp_ne (tgt := 610) hC dL_law_582 (by decide) (fun _ => ?_) (fun _ => ?_)
                          · refine nr_aload_n hC dL_law_585 rfl 4 rfl ?_
                            refine nr_callSl (As := [.ref (ad 228)]) hC rfl (fun hI => tL_seen (t1 := t1) (t2 := t2) hI n m577) (va_cwS 1 hC.1.2.2.2.2 gL_law_L_seen rfl rfl rfl (by decide +kernel) ⟨Nat.le_of_ble_eq_true rfl, Nat.le_of_ble_eq_true rfl⟩) rfl (Nat.le_of_ble_eq_true rfl) ⟨Nat.le_of_ble_eq_true rfl, Nat.le_of_ble_eq_true rfl⟩ dL_law_586 (fun r586 m586 => ?_)
                            refine nr_aload_n hC dL_law_589 rfl 3 rfl ?_
                            refine nr_iload_n hC dL_law_590 rfl 2 rfl ?_
                            refine nr_lald hC dL_law_591 ?_
                            refine nr_lcmp hC dL_law_592 ?_
                            refine nr_if_ne (tgt := 610) hC dL_law_593 (by decide) (fun _ => ?_) (fun _ => ?_)
                            · refine nr_aload_n hC dL_law_596 rfl 4 rfl ?_
                              refine nr_bipush (v := 13) hC dL_law_597 (by decide) ?_
                              refine nr_callVi (As := [.int (13 : Int32)]) hC rfl (fun hI => tX5_count (t1 := t1) (t2 := t2) hI n (13 : Int32) m586) (cwV 1 hC.1.2.2.2.2 gL_law_X5_count rfl rfl rfl (by decide +kernel) ⟨Nat.le_of_ble_eq_true rfl, Nat.le_of_ble_eq_true rfl⟩) rfl (Nat.le_of_ble_eq_true rfl) ⟨Nat.le_of_ble_eq_true rfl, Nat.le_of_ble_eq_true rfl⟩ dL_law_599 (fun r599 m599 => ?_)
                              refine nr_iconst (v := 1) hC dL_law_602 (by decide) ?_
                              refine nr_icmp_ne (tgt := 610) hC dL_law_603 (by decide) (fun _ => ?_) (fun _ => ?_)
                              · refine nr_iconst (v := 1) hC dL_law_606 (by decide) ?_
                                refine nr_goto (tgt := 611) hC dL_law_607 (by decide) ?_
                                exact nr_lawret hC hE (Nat.le_of_ble_eq_true rfl) (Nat.le_of_ble_eq_true rfl) dL_law_611
                              · refine nr_iconst (v := 0) hC dL_law_610 (by decide) ?_
                                exact nr_lawret hC hE (Nat.le_of_ble_eq_true rfl) (Nat.le_of_ble_eq_true rfl) dL_law_611
                            · refine nr_iconst (v := 0) hC dL_law_610 (by decide) ?_
                              exact nr_lawret hC hE (Nat.le_of_ble_eq_true rfl) (Nat.le_of_ble_eq_true rfl) dL_law_611
                          · refine nr_iconst (v := 0) hC dL_law_610 (by decide) ?_
                            exact nr_lawret hC hE (Nat.le_of_ble_eq_true rfl) (Nat.le_of_ble_eq_true rfl) dL_law_611
                        · refine nr_iconst (v := 0) hC dL_law_610 (by decide) ?_
                          exact nr_lawret hC hE (Nat.le_of_ble_eq_true rfl) (Nat.le_of_ble_eq_true rfl) dL_law_611
                    · refine nr_iconst (v := 0) hC dL_law_503 (by decide) ?_
                      exact nr_lawret hC hE (Nat.le_of_ble_eq_true rfl) (Nat.le_of_ble_eq_true rfl) dL_law_504
          · refine nr_iconst (v := 0) hC dL_law_503 (by decide) ?_
            exact nr_lawret hC hE (Nat.le_of_ble_eq_true rfl) (Nat.le_of_ble_eq_true rfl) dL_law_504
        · refine nr_iconst (v := 0) hC dL_law_47 (by decide) ?_
          exact nr_lawret hC hE (Nat.le_of_ble_eq_true rfl) (Nat.le_of_ble_eq_true rfl) dL_law_48
      · refine nr_iconst (v := 0) hC dL_law_47 (by decide) ?_
        exact nr_lawret hC hE (Nat.le_of_ble_eq_true rfl) (Nat.le_of_ble_eq_true rfl) dL_law_48
